/** The edges of promises 4 to 7, 19 to 22, 27 and 28: pupils, sayings, seats, marks and counts, sentence by sentence. */
final class StateEdges {
    private static final int LEAST = Integer.MIN_VALUE;
    private static final int GREATEST = Integer.MAX_VALUE;
    private static final int[] NO_PUPIL = {-1, 4, 5, 9, 10, 11, 32, 64, LEAST, GREATEST};
    private static final String FOUR = "pupil a plain tall 9;pupil b proud tall 5;pupil c shy tall 5;"
            + "pupil d rival tall 0;bench row 1 worth 0;bench row 2 worth 0;bench row 3 worth 0;";

    private StateEdges() {
    }

    static void all() {
        pupil();
        say();
        sayFull();
        unsay();
        saying();
        sit();
        sitRefused();
        plan();
        planRefused();
        changesRefused();
        changes();
        hiddenThrows();
        hidden();
        markRefused();
        markHolds();
        count();
    }

    // ---- promises 4 to 7

    private static void pupil() {
        Check.edge(4, "Of a PUPIL, KIND, tall, SEAT, PLANNED SEAT");
        BenchOrder x = Check.of(FOUR + "pupil e helped tall 99;");
        int[][] due = {{0, 9}, {1, 5}, {2, 5}, {4, 0}, {3, 99}};
        for (int p = 0; p < 5; p++) {
            Check.due("kind", x.pupil(p, 0), due[p][0]);
            Check.due("tall", x.pupil(p, 1), due[p][1]);
        }
        Check.edge(4, "SEAT (NONE: stands)");
        Check.due("stands", x.pupil(4, 2), -1);
        x.sit(4, 0);
        Check.due("seat 0", x.pupil(4, 2), 0);
        x.sit(4, 5);
        Check.due("seat 5", x.pupil(4, 2), 5);
        Check.edge(4, "PLANNED SEAT (NONE: none)");
        Check.due("none planned", x.pupil(4, 3), -1);
        x.plan(4, 4);
        Check.due("planned", x.pupil(4, 3), 4);
        x.plan(4, 0);
        Check.due("planned", x.pupil(4, 3), 0);
        Check.edge(4, "NONE: others");
        BenchOrder four = Check.of(FOUR);
        for (int p : NO_PUPIL) {
            for (int what = -1; what <= 4; what++) {
                Check.due("pupil " + p, four.pupil(p, what), -1);
            }
        }
        for (int what : new int[] {-1, 4, 5, 6, LEAST, GREATEST}) {
            Check.due("what " + what, four.pupil(0, what), -1);
            Check.due("what " + what, four.pupil(3, what), -1);
        }
    }

    private static void say() {
        Check.edge(5, "how many there are");
        BenchOrder x = Check.of(FOUR + "say a b 1;");
        Check.due("with that of the text", x.say(3, 0, 1), 2);
        Check.due("the same again", x.say(3, 0, 1), 3);
        Check.due("the other way round", x.say(0, 3, 0), 4);
        Check.edge(5, "NONE: others, the same PUPIL");
        String before = Check.state(x);
        for (int p : NO_PUPIL) {
            Check.due("better " + p, x.say(p, 0, 0), -1);
            Check.due("other " + p, x.say(0, p, 0), -1);
            Check.due("both " + p, x.say(p, p, 0), -1);
        }
        for (int p = 0; p < 4; p++) {
            Check.due("the same", x.say(p, p, 0), -1);
            Check.due("the same", x.say(p, p, 1), -1);
        }
        for (int m : new int[] {-1, 2, 3, LEAST, GREATEST}) {
            Check.due("master " + m, x.say(0, 1, m), -1);
        }
        Check.same("refused", Check.state(x), before);
        Check.due("alone", Check.with(1, "").say(0, 0, 0), -1);
    }

    private static void sayFull() {
        Check.edge(5, "NONE: 40 are there");
        BenchOrder x = Check.of(FOUR);
        for (int n = 1; n <= 40; n++) {
            Check.due("the " + n + "-th", x.say(n % 3, 3, n % 2), n);
        }
        String before = Check.state(x);
        Check.due("the 41st", x.say(0, 1, 0), -1);
        Check.due("the 41st", x.say(1, 0, 1), -1);
        Check.same("refused", Check.state(x), before);
        Check.due("one goes", x.unsay(), true);
        Check.due("one comes", x.say(2, 1, 1), 40);
        Check.due("it is the last", x.saying(39, 0), 2);
        Check.due("no other comes", x.say(2, 1, 1), -1);
    }

    private static void unsay() {
        Check.edge(6, "The last SAYING is gone: true");
        BenchOrder x = Check.of(FOUR + "say a b 0;");
        x.say(2, 3, 1);
        String before = Check.state(x);
        x.say(3, 1, 0);
        Check.due("the last", x.unsay(), true);
        Check.same("the others stay", Check.state(x), before);
        Check.due("by hand", x.unsay(), true);
        Check.due("that of the text", x.saying(0, 1), 1);
        Check.due("of the text", x.unsay(), true);
        Check.edge(6, "false: there is none");
        Check.due("none", x.unsay(), false);
        Check.due("none is less than none", x.count(2), 0);
        Check.due("the first again", x.say(1, 0, 0), 1);
        Check.due("and gone", x.unsay(), true);
        Check.due("none", x.unsay(), false);
    }

    private static void saying() {
        Check.edge(7, "Of the i-th SAYING, the first, the second, the MASTER");
        BenchOrder x = Check.of(FOUR + "say d b 1;");
        x.say(2, 0, 0);
        int[][] due = {{3, 1, 1}, {2, 0, 0}};
        for (int i = 0; i < 2; i++) {
            for (int what = 0; what < 3; what++) {
                Check.due("saying " + i + ", " + what, x.saying(i, what), due[i][what]);
            }
        }
        Check.edge(7, "NONE: others");
        for (int what = -1; what <= 3; what++) {
            for (int i : new int[] {-1, 2, 3, 39, 40, 41, LEAST, GREATEST}) {
                Check.due("saying " + i, x.saying(i, what), -1);
            }
        }
        for (int what : new int[] {-1, 3, 4, LEAST, GREATEST}) {
            Check.due("what " + what, x.saying(0, what), -1);
        }
        x.unsay();
        Check.due("gone", x.saying(1, 0), -1);
        Check.due("none at all", Check.of(FOUR).saying(0, 0), -1);
        BenchOrder forty = Check.of(FOUR + "say a b 0;".repeat(39) + "say c d 1;");
        Check.due("the 40th", forty.saying(39, 0), 2);
        Check.due("none behind", forty.saying(40, 0), -1);
    }

    // ---- promises 19 to 22

    private static void sit() {
        Check.edge(19, "A PUPIL sits down on a SEAT: true");
        BenchOrder x = Check.of(FOUR);
        Check.due("the first seat", x.sit(0, 0), true);
        Check.due("the last seat", x.sit(3, 5), true);
        Check.due("the other side of the bench", x.sit(1, 1), true);
        Check.due("to another seat", x.sit(0, 2), true);
        Check.due("there he is", x.pupil(0, 2), 2);
        Check.due("no more sit", x.count(4), 3);
        Check.due("his old seat is free", x.sit(2, 0), true);
        Check.edge(19, "NONE: stands up");
        Check.due("up", x.sit(0, -1), true);
        Check.due("stands", x.pupil(0, 2), -1);
        Check.due("the seat is free", x.sit(1, 2), true);
        Check.edge(19, "A PUPIL sits down on a SEAT: true");
        x.plan(3, 4);
        Check.due("a plan takes no seat", x.sit(0, 4), true);
        Check.due("the plan stays", x.pupil(3, 3), 4);
    }

    private static void noneSuch(BenchOrder x) {
        for (int p : NO_PUPIL) {
            Check.due("sit of pupil " + p, x.sit(p, 0) || x.sit(p, -1), false);
            Check.due("plan of pupil " + p, x.plan(p, 0) || x.plan(p, -1), false);
        }
        for (int seat : new int[] {-2, -3, 6, 7, 11, 12, LEAST, GREATEST}) {
            Check.due("sit on seat " + seat, x.sit(2, seat), false);
            Check.due("plan of seat " + seat, x.plan(2, seat), false);
        }
    }

    private static void sitRefused() {
        Check.edge(19, "false: others");
        BenchOrder x = Check.of(FOUR);
        x.sit(0, 3);
        x.sit(1, 4);
        String before = Check.state(x);
        noneSuch(x);
        Check.edge(19, "false: it is not free");
        Check.due("another one's", x.sit(2, 3), false);
        Check.due("another one's", x.sit(0, 4), false);
        Check.edge(19, "false: it is so");
        Check.due("sits there", x.sit(0, 3), false);
        Check.due("stands", x.sit(2, -1), false);
        Check.same("refused", Check.state(x), before);
        Check.due("stood up", x.sit(0, -1), true);
        Check.due("stands by now", x.sit(0, -1), false);
        BenchOrder bare = Check.of("pupil a plain tall 1;");
        Check.due("no bench", bare.sit(0, 0), false);
        Check.due("no bench", bare.sit(0, 1), false);
    }

    private static void plan() {
        Check.edge(20, "A SEAT is PLANNED: true");
        BenchOrder x = Check.of(FOUR);
        Check.due("the first seat", x.plan(0, 0), true);
        Check.due("the last seat", x.plan(3, 5), true);
        Check.due("to another", x.plan(0, 4), true);
        Check.due("no more are planned", x.count(5), 2);
        Check.due("the old one is nobody's", x.plan(1, 0), true);
        Check.due("his own again", x.plan(1, 0), true);
        Check.due("it stays his", x.pupil(1, 3), 0);
        x.sit(2, 3);
        Check.due("where another one sits", x.plan(0, 3), true);
        Check.due("he stays there", x.pupil(2, 2), 3);
        Check.edge(20, "NONE: none");
        Check.due("none", x.plan(1, -1), true);
        Check.due("none", x.pupil(1, 3), -1);
        Check.due("none again", x.plan(1, -1), true);
        Check.due("two of them have none", x.plan(2, -1), true);
        Check.due("the seat is nobody's", x.plan(2, 0), true);
        Check.due("nobody sits by it", x.count(4), 1);
    }

    private static void planRefused() {
        Check.edge(20, "false: others");
        BenchOrder x = Check.of(FOUR);
        x.plan(0, 3);
        x.plan(1, 4);
        String before = Check.state(x);
        noneSuch(x);
        Check.edge(20, "false: another one's");
        Check.due("another one's", x.plan(2, 3), false);
        Check.due("another one's", x.plan(0, 4), false);
        Check.due("another one's", x.plan(1, 3), false);
        Check.same("refused", Check.state(x), before);
        Check.due("no bench", Check.of("pupil a plain tall 1;").plan(0, 0), false);
    }

    private static BenchOrder seated(String school, int[] seats, int[] plans) {
        BenchOrder x = Check.of(school);
        for (int p = 0; p < seats.length; p++) {
            Check.due("sit", x.sit(p, seats[p]), true);
            Check.due("plan", x.plan(p, plans[p]), true);
        }
        return x;
    }

    private static void changesRefused() {
        Check.edge(21, "NONE: not all sit, not all are PLANNED");
        BenchOrder x = Check.of(FOUR);
        Check.due("none", x.changes(), -1);
        for (int p = 0; p < 4; p++) {
            x.sit(p, p);
        }
        Check.due("nobody is planned", x.changes(), -1);
        for (int p = 0; p < 3; p++) {
            x.plan(p, p);
        }
        Check.due("one is not planned", x.changes(), -1);
        x.plan(3, 3);
        Check.due("all", x.changes(), 0);
        x.sit(0, -1);
        Check.due("the first one stands", x.changes(), -1);
        x.sit(0, 5);
        Check.due("all", x.changes(), 1);
        x.sit(3, -1);
        Check.due("the last one stands", x.changes(), -1);
        x.plan(0, -1);
        Check.due("nor is the first one planned", x.changes(), -1);
        Check.due("asking seats nobody", x.count(4), 3);
        Check.due("nobody is all", Check.of("bench row 1 worth 1;").changes(), 0);
    }

    private static void changes() {
        Check.edge(21, "the fewest by which all sit as PLANNED");
        int[] from = {0, 1, 2, 3};
        int[][] plans = {{0, 1, 2, 3}, {4, 1, 2, 3}, {1, 0, 2, 3}, {1, 4, 2, 3}, {1, 2, 0, 3}, {1, 2, 4, 3}, {1, 0, 3, 2},
            {1, 2, 3, 0}, {1, 2, 3, 5}, {4, 5, 2, 3}, {1, 0, 4, 2}, {3, 5, 4, 0}, {1, 5, 3, 4}, {3, 2, 1, 0}};
        int[] due = {0, 1, 1, 2, 2, 3, 2, 3, 4, 2, 3, 3, 4, 2};
        for (int i = 0; i < plans.length; i++) {
            Check.due("plan " + i, seated(FOUR, from, plans[i]).changes(), due[i]);
        }
        String full = Check.pupils(4) + "bench row 1 worth 1;".repeat(2);
        Check.due("no seat is free", seated(full, from, new int[] {1, 2, 3, 0}).changes(), 3);
        Check.due("no seat is free", seated(full, from, new int[] {2, 3, 0, 1}).changes(), 2);
        String ten = Check.pupils(10) + "bench row 1 worth 0;".repeat(6);
        int[] tenSeats = {2, 3, 4, 5, 6, 7, 8, 9, 10, 11};
        Check.due("ten in a ring", seated(ten, tenSeats, new int[] {3, 4, 5, 6, 7, 8, 9, 10, 11, 2}).changes(), 9);
        Check.due("ten in a chain", seated(ten, tenSeats, new int[] {3, 4, 5, 6, 7, 8, 9, 10, 11, 0}).changes(), 10);
        BenchOrder x = seated(FOUR, from, new int[] {1, 0, 2, 3});
        String before = Check.state(x);
        x.changes();
        Check.same("asking changes nothing", Check.state(x), before);
    }

    private static void hiddenThrows() {
        Check.edge(22, "NoSuchElementException: others, he stands");
        BenchOrder x = Check.of(FOUR);
        for (int p = 0; p < 4; p++) {
            Check.due("all stand", Check.hidden(x, p), Check.THROWN);
        }
        x.sit(1, 0);
        Check.due("he sits", Check.hidden(x, 1), 0);
        Check.due("he stands", Check.hidden(x, 0), Check.THROWN);
        for (int p : NO_PUPIL) {
            Check.due("pupil " + p, Check.hidden(x, p), Check.THROWN);
        }
        x.sit(1, -1);
        Check.due("stood up", Check.hidden(x, 1), Check.THROWN);
    }

    private static void hidden() {
        Check.edge(22, "how many taller ones sit on the same side in a lesser row");
        String school = "pupil a plain tall 9;pupil b plain tall 8;pupil c plain tall 8;pupil d plain tall 0;"
                + "bench row 5 worth 0;bench row 0 worth 0;bench row 5 worth 0;bench row 9 worth 0;bench row 4 worth 9;";
        BenchOrder x = Check.of(school);
        x.sit(0, 2);
        x.sit(1, 0);
        Check.due("one taller ahead", Check.hidden(x, 1), 1);
        Check.due("none ahead", Check.hidden(x, 0), 0);
        x.sit(2, 8);
        Check.due("as tall is not taller", Check.hidden(x, 1), 1);
        x.sit(0, 4);
        Check.due("the same row is no lesser one", Check.hidden(x, 1), 0);
        x.sit(0, 6);
        Check.due("a greater row", Check.hidden(x, 1), 0);
        Check.due("lesser ones ahead of him", Check.hidden(x, 0), 0);
        x.sit(0, 3);
        Check.due("the other side", Check.hidden(x, 1), 0);
        x.sit(3, 6);
        Check.due("two of three", Check.hidden(x, 3), 2);
        x.sit(0, 2);
        Check.due("three of three", Check.hidden(x, 3), 3);
        x.sit(0, -1);
        Check.due("who stands hides nothing", Check.hidden(x, 3), 2);
        x.sit(0, 9);
        x.sit(3, 7);
        Check.due("on the right", Check.hidden(x, 3), 1);
        anySeats();
        tenBehindOneAnother();
    }

    private static void anySeats() {
        int[] rows = {4, 0, 9, 4, 7, 2};
        StringBuilder school = new StringBuilder(Check.pupils(2));
        for (int row : rows) {
            school.append("bench row ").append(row).append(" worth 1;");
        }
        BenchOrder x = Check.of(school.toString());
        for (int small = 0; small < 12; small++) {
            for (int tall = 0; tall < 12; tall++) {
                if (small != tall) {
                    x.sit(0, -1);
                    x.sit(1, -1);
                    x.sit(0, small);
                    x.sit(1, tall);
                    boolean seesNothing = (small - tall) % 2 == 0 && rows[tall / 2] < rows[small / 2];
                    Check.due("on " + small + " behind " + tall, Check.hidden(x, 0), seesNothing ? 1 : 0);
                    Check.due("the taller one", Check.hidden(x, 1), 0);
                }
            }
        }
    }

    private static void tenBehindOneAnother() {
        String school = Check.pupils(10);
        for (int row = 0; row < 6; row++) {
            school += "bench row " + row + " worth 1;";
        }
        BenchOrder x = Check.of(school);
        int[] seats = {10, 11, 8, 9, 6, 7, 4, 5, 2, 3};
        for (int p = 0; p < 10; p++) {
            x.sit(p, seats[p]);
        }
        for (int p = 0; p < 10; p++) {
            Check.due("behind the taller ones of ten", Check.hidden(x, p), (9 - p) / 2);
        }
    }

    // ---- promises 27 and 28

    private static void markRefused() {
        Check.edge(27, "false: none such");
        BenchOrder x = Check.of(FOUR + "say a b 0;");
        String before = Check.state(x);
        for (int m : new int[] {-1, 4, 5, LEAST, GREATEST}) {
            Check.due("mark " + m, x.mark(m, false), false);
            Check.due("mark " + m, x.mark(m, true), false);
        }
        Check.edge(27, "false: nothing is on it (back)");
        for (int m = 0; m < 4; m++) {
            Check.due("mark " + m, x.mark(m, true), false);
        }
        Check.same("refused", Check.state(x), before);
        Check.edge(27, "MARKS 0 to 3");
        for (int m = 0; m < 4; m++) {
            x.say(m, (m + 1) % 4, 0);
            Check.due("laid", x.mark(m, false), true);
            for (int later = m + 1; later < 4; later++) {
                Check.due("nothing is on " + later, x.mark(later, true), false);
            }
        }
        for (int m = 3; m >= 0; m--) {
            Check.due("back to " + m, x.mark(m, true), true);
            Check.due("the sayings of " + m, x.count(2), m + 2);
        }
    }

    private static void markHolds() {
        Check.edge(27, "MARKS hold the SCHOOL, SAYINGS, who sits where, what is PLANNED");
        BenchOrder x = Check.of(FOUR + "say a b 1;say c d 0;like a c 4;slip 2;wish likes+tall;");
        x.sit(0, 1);
        x.sit(2, 4);
        x.plan(1, 2);
        String marked = Check.state(x);
        Check.due("laid", x.mark(0, false), true);
        Check.same("laying changes nothing", Check.state(x), marked);
        x.unsay();
        x.unsay();
        x.say(3, 0, 1);
        x.sit(0, 0);
        x.sit(2, -1);
        x.sit(3, 4);
        x.plan(1, -1);
        x.plan(0, 2);
        String other = Check.state(x);
        Check.due("laid", x.mark(1, false), true);
        Check.due("back", x.mark(0, true), true);
        Check.same("as it was", Check.state(x), marked);
        Check.due("the other", x.mark(1, true), true);
        Check.same("as it was later", Check.state(x), other);
        Check.read(x, "pupil z shy tall 4;");
        Check.due("back behind another school", x.mark(0, true), true);
        Check.same("as it was", Check.state(x), marked);
        x.sit(0, 3);
        Check.due("back again", x.mark(0, true), true);
        Check.same("what was done behind it is not on it", Check.state(x), marked);
        x.unsay();
        String less = Check.state(x);
        Check.due("laid over it", x.mark(0, false), true);
        x.unsay();
        Check.due("back", x.mark(0, true), true);
        Check.same("the new one", Check.state(x), less);
        Check.put(x, "wish");
        Check.due("back", x.mark(0, true), true);
        Check.due("the tape is on none", x.count(6), 4);
    }

    private static void count() {
        Check.edge(28, "PUPILS, benches, SAYINGS, slip, who sit, who are PLANNED, signs on the TAPE");
        BenchOrder x = Check.of(FOUR + "say a b 1;slip 3;");
        x.say(1, 2, 0);
        x.sit(2, 2);
        x.sit(3, 3);
        x.sit(1, 0);
        x.plan(3, 3);
        Check.put(x, "seven..");
        int[] due = {4, 3, 2, 3, 3, 1, 7};
        for (int what = 0; what < due.length; what++) {
            Check.due("count(" + what + ")", x.count(what), due[what]);
        }
        x.sit(1, -1);
        x.plan(3, -1);
        x.unsay();
        Check.due("sayings", x.count(2), 1);
        Check.due("who sit", x.count(4), 2);
        Check.due("who are planned", x.count(5), 0);
        Check.edge(28, "NONE for another what");
        for (int what : new int[] {-1, 7, 8, LEAST, GREATEST}) {
            Check.due("count(" + what + ")", x.count(what), -1);
        }
        BenchOrder most = Check.of(Check.pupils(10) + "bench row 1 worth 0;".repeat(6) + "say a b 0;".repeat(40) + "slip 3;");
        for (int p = 0; p < 10; p++) {
            most.sit(p, p + 2);
            most.plan(p, 9 - p);
        }
        int[] full = {10, 6, 40, 3, 10, 10, 0};
        for (int what = 0; what < full.length; what++) {
            Check.due("count(" + what + ") of all that may be", most.count(what), full[what]);
        }
    }
}
