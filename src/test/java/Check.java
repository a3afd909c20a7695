import java.util.NoSuchElementException;

/** Counts answers that are not as due, and feeds texts to an object. */
final class Check {
    /** What asking tells instead of an answer where hidden throws what the document names. */
    static final int THROWN = -77;

    private static int wrong = 0;
    private static int asked = 0;
    private static String edge = "";
    private static long edges = 0;

    private Check() {
    }

    /** The sentence of the document that the answers from here on are held against. */
    static void edge(int promise, String sentence) {
        edge = "promise " + promise + ", \"" + sentence + "\": ";
        edges |= 1L << promise;
    }

    static boolean hasEdge(int promise) {
        return (edges >> promise & 1) != 0;
    }

    static void due(String call, long got, long want) {
        asked++;
        if (got != want) {
            wrong++;
            if (wrong <= 40) {
                System.out.println(edge + call + " answered " + got + ", due is " + want);
            }
        }
    }

    static void due(String call, boolean got, boolean want) {
        due(call, got ? 1L : 0L, want ? 1L : 0L);
    }

    static void same(String call, String got, String want) {
        asked++;
        if (!got.equals(want)) {
            wrong++;
            System.out.println(edge + call + " left " + got + ", due is " + want);
        }
    }

    /** Puts a text on the tape, 24 signs a call, as the document says. */
    static void put(BenchOrder x, String text) {
        for (int i = 0; i < text.length(); i += 24) {
            x.feed(eight(text, i), eight(text, i + 8), eight(text, i + 16));
        }
    }

    static long eight(String text, int from) {
        long all = 0;
        for (int i = from; i < from + 8; i++) {
            all = all << 8 | (i < text.length() ? text.charAt(i) : 0);
        }
        return all;
    }

    static int read(BenchOrder x, String text) {
        put(x, text);
        return x.school();
    }

    static BenchOrder of(String text) {
        BenchOrder x = new BenchOrder();
        due("school() of " + text, read(x, text), 0);
        return x;
    }

    static void fault(String text, int kind, int place) {
        due("school() of " + text, read(new BenchOrder(), text), kind + 16L * place);
    }

    /** That many plain pupils, named a, b, c and so on. */
    static String pupils(int many) {
        StringBuilder text = new StringBuilder();
        for (int i = 0; i < many; i++) {
            text.append("pupil ").append((char) ('a' + i)).append(" plain tall ").append(i).append(';');
        }
        return text.toString();
    }

    /** Each word names two pupils, then the master where it is not 0: "ab ba1". */
    static void say(BenchOrder x, String sayings) {
        for (String s : sayings.split(" ")) {
            if (!s.isEmpty()) {
                int master = s.length() > 2 ? s.charAt(2) - '0' : 0;
                due("say " + s, x.say(s.charAt(0) - 'a', s.charAt(1) - 'a', master) > 0, true);
            }
        }
    }

    static BenchOrder with(int pupils, String sayings) {
        BenchOrder x = of(pupils(pupils));
        say(x, sayings);
        return x;
    }

    static int hidden(BenchOrder x, int pupil) {
        try {
            return x.hidden(pupil);
        } catch (NoSuchElementException e) {
            return THROWN;
        }
    }

    /** All that can be asked without changing anything, as one text. */
    static String state(BenchOrder x) {
        StringBuilder all = new StringBuilder();
        for (int what = 0; what <= 6; what++) {
            all.append(x.count(what)).append(what < 6 ? ' ' : '|');
        }
        for (int i = 0; i < x.count(2); i++) {
            all.append(x.saying(i, 0)).append('>').append(x.saying(i, 1)).append('.').append(x.saying(i, 2)).append(' ');
        }
        for (int p = 0; p < x.count(0); p++) {
            all.append('|').append(x.pupil(p, 0)).append(' ').append(x.pupil(p, 1)).append(' ').append(x.pupil(p, 2));
            all.append(' ').append(x.pupil(p, 3)).append(' ').append(x.span(p, 0)).append(' ').append(x.span(p, 1));
            all.append(' ').append(x.row(p)).append(' ').append(x.newOne(p)).append(' ').append(hidden(x, p));
            for (int q = 0; q < x.count(0); q++) {
                all.append(' ').append(x.sure(p, q)).append('/').append(x.wishes(p, q)).append('/');
                all.append(x.chance(p, q, 0)).append('/').append(x.chance(p, q, 1));
            }
        }
        all.append('|').append(x.orders()).append(' ').append(x.helped()).append(' ').append(x.unlike());
        for (int i = -1; i <= 1; i++) {
            all.append(' ').append(x.dropped(i)).append(' ').append(x.next(i + 1));
        }
        all.append(' ').append(x.needed()).append(' ').append(x.changes()).append(' ').append(x.rests());
        return all.append(' ').append(x.season(12, 0)).append(' ').append(x.season(12, 1)).toString();
    }

    static void end() {
        System.out.println(asked + " answers, " + wrong + " not as due");
        if (wrong != 0) {
            System.exit(1);
        }
    }
}
