/** Promises 2 (feed) and 3 (school): the tape, tokens, the language, its faults. */
final class TextTest {
    private TextTest() {
    }

    public static void main(String[] args) {
        tape();
        tapeIsTaken();
        tokens();
        names();
        pupilLines();
        benchLines();
        sayLines();
        likeLines();
        slipAndWish();
        expressions();
        nesting();
        faultsLeaveAll();
        Check.end();
    }

    private static void tape() {
        BenchOrder x = new BenchOrder();
        Check.due("feed of nothing", x.feed(0, 0, 0), 0);
        Check.due("9, 10, 11, 31, 32, 126, 127, 128", x.feed(0x090A0B1F207E7F80L, 0, 0), 3);
        Check.due("all bits", x.feed(-1L, -1L, -1L), 3);
        Check.due("count(6)", x.count(6), 3);
        Check.due("the sign 126 is none", x.school(), 1 + 16 * 2);
        for (int i = 1; i <= 41; i++) {
            Check.due("feed", x.feed(0x2020202020202020L, 0x2020202020202020L, 0x2020202020202020L), 24L * i);
        }
        Check.due("up to 1,000", x.feed(0x2020202020202020L, 0x2020202020202020L, 0x2121212121212121L), 1000);
        Check.due("beyond 1,000", x.feed(0x2121212121212121L, 0x2121212121212121L, 0x2121212121212121L), 1000);
        Check.due("blanks alone", x.school(), 0);
        Check.due("highest byte first", x.feed(0x736C697020323B00L, 0, 0), 7);
        Check.due("slip 2;", x.school(), 0);
        Check.due("slip", x.count(3), 2);
        x.feed(0x736C000000000000L, 0x6900000000000000L, 0x7020333B00000000L);
        Check.due("a, b, c in turn", x.school(), 0);
        Check.due("slip", x.count(3), 3);
        Check.put(x, "slip 1" + " ".repeat(994));
        Check.due("the end at 1,000", x.school(), 1 + 16 * 1000);
    }

    private static void tapeIsTaken() {
        BenchOrder x = new BenchOrder();
        Check.put(x, "what");
        Check.due("fault", x.school(), 1);
        Check.due("the tape is empty behind a fault", x.count(6), 0);
        Check.put(x, "slip 1;");
        Check.due("good", x.school(), 0);
        Check.due("the tape is empty behind a school", x.count(6), 0);
        Check.due("an empty text is a school of nobody", x.school(), 0);
        Check.due("slip without", x.count(3), 0);
    }

    private static void tokens() {
        Check.of("pupil\na\nplain\ntall\n5\n;\n");
        Check.of("bench row5worth6;bench row 0005 worth 0099;");
        Check.due("a digit may stand right behind a word",
                Check.read(new BenchOrder(), "slip2;"), 0);
        Check.fault("slip 12345;", 1, 5);
        Check.fault("slip 00001;", 1, 5);
        Check.fault("abcdefghi", 1, 0);
        Check.fault("pupil abcdefghi plain tall 1;", 1, 6);
        Check.of("pupil abcdefgh plain tall 1;");
        Check.fault("pupil A plain tall 1;", 1, 6);
        Check.fault("pupil a1 plain tall 1;", 1, 7);
        Check.fault("slip 1,", 1, 6);
        Check.fault("slip 1>", 1, 6);
        Check.fault("pupils a plain tall 1;", 1, 0);
    }

    private static void names() {
        String[] kept = {"pupil", "tall", "bench", "row", "worth", "say", "like", "slip", "wish", "plain", "proud",
            "shy", "helped", "rival", "not", "and", "or"};
        for (String word : kept) {
            Check.fault("pupil " + word + " plain tall 1;", 1, 6);
            Check.fault("pupil a plain tall 1;say a " + word + " 0;", 1, 27);
            Check.fault("pupil a plain tall 1;like " + word + " a 0;", 1, 26);
        }
        for (String word : new String[] {"likes", "other", "above", "below", "x", "zzzzzzzz"}) {
            Check.of("pupil " + word + " plain tall 1;");
        }
        Check.fault("pupil a plain tall 1;pupil a shy tall 2;", 3, 27);
        Check.of("pupil a plain tall 1;pupil aa shy tall 2;");
    }

    private static void pupilLines() {
        BenchOrder x = Check.of("pupil a plain tall 0;pupil b proud tall 1;pupil c shy tall 50;pupil d helped tall 98;"
                + "pupil e rival tall 99;");
        int[] talls = {0, 1, 50, 98, 99};
        for (int p = 0; p < 5; p++) {
            Check.due("kind", x.pupil(p, 0), p);
            Check.due("tall", x.pupil(p, 1), talls[p]);
        }
        Check.due("ten", Check.read(new BenchOrder(), Check.pupils(10)), 0);
        Check.fault(Check.pupils(10) + "pupil", 5, Check.pupils(10).length());
        Check.fault(Check.pupils(10) + "pupil a", 5, Check.pupils(10).length());
        Check.fault("pupil", 1, 5);
        Check.fault("pupil ", 1, 6);
        Check.fault("pupil a ", 1, 8);
        Check.fault("pupil a tall 1;", 1, 8);
        Check.fault("pupil a likes tall 1;", 1, 8);
        Check.fault("pupil a plain 1;", 1, 14);
        Check.fault("pupil a plain tall;", 1, 18);
        Check.fault("pupil a plain tall x;", 1, 19);
        Check.fault("pupil a plain tall 100;", 4, 19);
        Check.fault("pupil a plain tall 9999", 4, 19);
        Check.fault("pupil a plain tall 99", 1, 21);
        Check.fault("pupil a plain tall 9 pupil b plain tall 9;", 1, 21);
    }

    private static void benchLines() {
        String six = "bench row 9 worth 99;".repeat(6);
        Check.due("six", Check.of(six).count(1), 6);
        Check.fault(six + "bench row 9 worth 99;", 5, 126);
        Check.fault("bench", 1, 5);
        Check.fault("bench worth 1 row 1;", 1, 6);
        Check.fault("bench row 10 worth 0;", 4, 10);
        Check.fault("bench row 9 worth 100;", 4, 18);
        Check.fault("bench row 9;", 1, 11);
        Check.fault("bench row 9 worth;", 1, 17);
        Check.fault("bench row 9 worth 9", 1, 19);
    }

    private static void sayLines() {
        String ab = "pupil a plain tall 1;pupil b plain tall 1;";
        int n = ab.length();
        BenchOrder x = Check.of(ab + "say b a 1;say a b 0;");
        Check.due("first", x.saying(0, 0), 1);
        Check.due("second", x.saying(0, 1), 0);
        Check.due("master", x.saying(0, 2), 1);
        Check.due("first", x.saying(1, 0), 0);
        Check.due("master", x.saying(1, 2), 0);
        Check.due("40", Check.read(x, ab + "say a b 0;".repeat(40)), 0);
        Check.due("40", x.count(2), 40);
        Check.due("no more by hand", x.say(0, 1, 0), -1);
        Check.fault(ab + "say a b 0;".repeat(40) + "say x", 5, n + 400);
        Check.fault(ab + "say c a 0;", 2, n + 4);
        Check.fault(ab + "say a c 0;", 2, n + 6);
        Check.fault(ab + "say a a 0;", 3, n + 6);
        Check.fault(ab + "say c c 0;", 2, n + 4);
        Check.fault(ab + "say a b 2;", 4, n + 8);
        Check.fault(ab + "say a b;", 1, n + 7);
        Check.fault(ab + "say a 0;", 1, n + 6);
        Check.fault(ab + "say a b 0", 1, n + 9);
        Check.fault("pupil a plain tall 1;say a b 0;pupil b plain tall 1;", 2, 27);
    }

    private static void likeLines() {
        String ab = "pupil a plain tall 1;pupil b plain tall 1;";
        int n = ab.length();
        BenchOrder x = Check.of(ab + "like a b 99;like b a 0;");
        Check.due("likes", x.wishes(0, 1), 99);
        Check.due("likes", x.wishes(1, 0), 0);
        Check.fault(ab + "like a b 1;like a b 2;", 3, n + 18);
        Check.fault(ab + "like a b 0;like a b 2;", 3, n + 18);
        Check.fault(ab + "like a a 1;", 3, n + 7);
        Check.fault(ab + "like c b 1;", 2, n + 5);
        Check.fault(ab + "like a c 1;", 2, n + 7);
        Check.fault(ab + "like a b 100;", 4, n + 9);
        Check.fault(ab + "like a b;", 1, n + 8);
        Check.fault(ab + "like a;", 1, n + 6);
        Check.due("told in an earlier text is no matter", Check.read(x, ab + "like a b 7;"), 0);
    }

    private static void slipAndWish() {
        for (int slip = 0; slip <= 3; slip++) {
            Check.due("slip", Check.of("slip " + slip + ";").count(3), slip);
        }
        Check.fault("slip 4;", 4, 5);
        Check.fault("slip;", 1, 4);
        Check.fault("slip 0;slip", 3, 7);
        Check.fault("wish 1;wish", 3, 7);
        Check.fault("wish 1;slip 1;wish 2;", 3, 14);
        Check.fault("wish;", 1, 4);
        Check.fault("wish", 1, 4);
        Check.fault("wish 1", 1, 6);
        Check.fault(";", 1, 0);
        Check.fault("slip 1;;", 1, 7);
        Check.fault("slip 1;tall", 1, 7);
    }

    private static void expressions() {
        Check.of("wish 9999;");
        Check.fault("wish 10000;", 1, 5);
        Check.fault("wish worth;", 1, 5);
        Check.fault("wish a;", 1, 5);
        Check.fault("wish 1<2<3;", 1, 8);
        Check.fault("wish 1<2=3;", 1, 8);
        Check.of("wish 1<2 and 2=3 or(1<2)<3;");
        Check.fault("wish 1 and;", 1, 10);
        Check.fault("wish 1 and and 2;", 1, 11);
        Check.fault("wish 1+;", 1, 7);
        Check.fault("wish 1--1;", 1, 7);
        Check.fault("wish -1;", 1, 5);
        Check.fault("wish 1**1;", 1, 7);
        Check.fault("wish 1 2;", 1, 7);
        Check.fault("wish likes tall;", 1, 11);
        Check.fault("wish ();", 1, 6);
        Check.fault("wish (1;", 1, 7);
        Check.fault("wish 1);", 1, 6);
        Check.fault("wish not;", 1, 8);
        Check.fault("wish 1 not 1;", 1, 7);
        Check.of("wish not not 1*not(tall);");
        Check.fault("wish (1", 1, 7);
    }

    private static void nesting() {
        Check.of("wish ((((1))));");
        Check.of("wish not not not not 1;");
        Check.fault("wish (((((1)))));", 5, 10);
        Check.fault("wish not not not not not 1;", 5, 25);
        Check.fault("wish not not not not not not 1;", 5, 25);
        Check.fault("wish ((((((1))))));", 5, 10);
        Check.fault("wish (not(not likes));wish", 3, 22);
        Check.fault("wish (not(not(likes)));", 5, 14);
        Check.fault("wish (not(not(;", 1, 14);
        Check.of("wish (not(likes+(tall)));");
        Check.fault("wish (not(likes+(not tall)));", 5, 21);
        Check.fault("wish ((((()", 1, 10);
        Check.fault("wish (((((", 1, 10);
        Check.fault("wish (((((and", 1, 10);
        Check.of("wish ((((1))))*((((2))))+not not not(3);");
        Check.fault("wish ((((1))))*(((((2;", 5, 20);
    }

    private static void faultsLeaveAll() {
        BenchOrder x = Check.of("pupil a plain tall 7;pupil b shy tall 8;bench row 1 worth 1;slip 2;say a b 1;"
                + "like b a 5;wish likes+tall;");
        x.sit(0, 1);
        x.plan(1, 0);
        Check.due("fault", Check.read(x, "pupil z rival tall 3;slip 3;wish 1;bench row 2 worth 1;!"), 1 + 16 * 55);
        Check.due("pupils", x.count(0), 2);
        Check.due("benches", x.count(1), 1);
        Check.due("sayings", x.count(2), 1);
        Check.due("slip", x.count(3), 2);
        Check.due("who sit", x.count(4), 1);
        Check.due("who are planned", x.count(5), 1);
        Check.due("wish", x.wishes(1, 0), 23);
        Check.due("a school", Check.read(x, "pupil a plain tall 7;bench row 1 worth 1;"), 0);
        Check.due("nobody sits", x.count(4), 0);
        Check.due("nothing is planned", x.count(5), 0);
        Check.due("no sayings", x.count(2), 0);
        Check.due("no slip", x.count(3), 0);
        Check.due("he stands", x.pupil(0, 2), -1);
        Check.due("his seat is free", x.sit(0, 1), true);
    }
}
