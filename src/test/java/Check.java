/** Counts answers that are not as due, and feeds texts to an object. */
final class Check {
    private static int wrong = 0;
    private static int asked = 0;

    private Check() {
    }

    static void due(String call, long got, long want) {
        asked++;
        if (got != want) {
            wrong++;
            if (wrong <= 40) {
                System.out.println(call + " answered " + got + ", due is " + want);
            }
        }
    }

    static void due(String call, boolean got, boolean want) {
        due(call, got ? 1L : 0L, want ? 1L : 0L);
    }

    /** Puts a text on the tape, 24 signs a call, as the document says. */
    static void put(BenchOrder x, String text) {
        for (int i = 0; i < text.length(); i += 24) {
            x.feed(eight(text, i), eight(text, i + 8), eight(text, i + 16));
        }
    }

    static long eight(String text, int from) {
        long all = 0;
        for (int i = from; i < from + 8; i++) {
            all = all << 8 | (i < text.length() ? text.charAt(i) : 0);
        }
        return all;
    }

    static int read(BenchOrder x, String text) {
        put(x, text);
        return x.school();
    }

    static BenchOrder of(String text) {
        BenchOrder x = new BenchOrder();
        due("school() of " + text, read(x, text), 0);
        return x;
    }

    static void fault(String text, int kind, int place) {
        due("school() of " + text, read(new BenchOrder(), text), kind + 16L * place);
    }

    /** That many plain pupils, named a, b, c and so on. */
    static String pupils(int many) {
        StringBuilder text = new StringBuilder();
        for (int i = 0; i < many; i++) {
            text.append("pupil ").append((char) ('a' + i)).append(" plain tall ").append(i).append(';');
        }
        return text.toString();
    }

    static void end() {
        System.out.println(asked + " answers, " + wrong + " not as due");
        if (wrong != 0) {
            System.exit(1);
        }
    }
}
