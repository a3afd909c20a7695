/** Promises 4 to 7 (pupil, say, unsay, saying), 19 to 22 (seats), 27 (mark) and 28 (count). */
final class StateTest {
    private static final String FOUR = "pupil a plain tall 9;pupil b proud tall 5;pupil c shy tall 5;"
            + "pupil d rival tall 1;bench row 1 worth 0;bench row 2 worth 0;bench row 3 worth 0;";

    private StateTest() {
    }

    public static void main(String[] args) {
        pupil();
        sayings();
        sit();
        plan();
        changes();
        hidden();
        marks();
        counts();
        Check.end();
    }

    private static void pupil() {
        BenchOrder x = Check.of(FOUR);
        for (int what = -1; what <= 4; what++) {
            Check.due("no such pupil", x.pupil(4, what), -1);
            Check.due("no such pupil", x.pupil(-1, what), -1);
            Check.due("no such pupil", x.pupil(Integer.MIN_VALUE, what), -1);
        }
        Check.due("no such what", x.pupil(0, 4), -1);
        Check.due("no such what", x.pupil(0, -1), -1);
        Check.due("stands", x.pupil(0, 2), -1);
        Check.due("unplanned", x.pupil(0, 3), -1);
        x.sit(0, 5);
        x.plan(0, 4);
        Check.due("seat", x.pupil(0, 2), 5);
        Check.due("planned seat", x.pupil(0, 3), 4);
    }

    private static void sayings() {
        BenchOrder x = Check.of(FOUR);
        Check.due("none to unsay", x.unsay(), false);
        Check.due("say", x.say(3, 0, 1), 1);
        Check.due("the same again", x.say(3, 0, 1), 2);
        Check.due("the same pupil", x.say(3, 3, 1), -1);
        Check.due("no such pupil", x.say(4, 0, 1), -1);
        Check.due("no such pupil", x.say(0, -1, 1), -1);
        Check.due("no such master", x.say(0, 1, -1), -1);
        Check.due("no such master", x.say(0, 1, 2), -1);
        Check.due("none of these is said", x.count(2), 2);
        Check.due("saying", x.saying(1, 0), 3);
        Check.due("saying", x.saying(1, 1), 0);
        Check.due("saying", x.saying(1, 2), 1);
        Check.due("saying", x.saying(1, 3), -1);
        Check.due("saying", x.saying(1, -1), -1);
        Check.due("saying", x.saying(2, 0), -1);
        Check.due("saying", x.saying(-1, 0), -1);
        Check.due("unsay", x.unsay(), true);
        Check.due("gone", x.saying(1, 0), -1);
        for (int n = 2; n <= 40; n++) {
            Check.due("say", x.say(0, 1, 0), n);
        }
        Check.due("40 are there", x.say(0, 1, 0), -1);
        Check.due("unsay", x.unsay(), true);
        Check.due("room again", x.say(1, 2, 1), 40);
        Check.due("the last one", x.saying(39, 1), 2);
        BenchOrder told = Check.of(FOUR + "say a b 0;");
        Check.due("those of the text go too", told.unsay(), true);
        Check.due("none is left", told.unsay(), false);
    }

    private static void sit() {
        BenchOrder x = Check.of(FOUR);
        Check.due("stands already", x.sit(0, -1), false);
        Check.due("no such seat", x.sit(0, 6), false);
        Check.due("no such seat", x.sit(0, -2), false);
        Check.due("no such pupil", x.sit(4, 0), false);
        Check.due("no such pupil", x.sit(-1, 0), false);
        Check.due("sits down", x.sit(0, 0), true);
        Check.due("sits so already", x.sit(0, 0), false);
        Check.due("not free", x.sit(1, 0), false);
        Check.due("the last seat", x.sit(1, 5), true);
        Check.due("to another seat", x.sit(0, 3), true);
        Check.due("the old one is free", x.sit(2, 0), true);
        Check.due("the new one is not", x.sit(3, 3), false);
        Check.due("stands up", x.sit(0, -1), true);
        Check.due("stands", x.pupil(0, 2), -1);
        Check.due("free again", x.sit(3, 3), true);
        Check.due("a plan takes no seat", x.plan(0, 4), true);
        Check.due("a planned seat is free", x.sit(0, 4), true);
        Check.due("without benches", Check.of("pupil a shy tall 1;").sit(0, 0), false);
    }

    private static void plan() {
        BenchOrder x = Check.of(FOUR);
        Check.due("none, as before", x.plan(0, -1), true);
        Check.due("planned", x.plan(0, 0), true);
        Check.due("his own again", x.plan(0, 0), true);
        Check.due("another one's", x.plan(1, 0), false);
        Check.due("to another", x.plan(0, 5), true);
        Check.due("free again", x.plan(1, 0), true);
        Check.due("no such seat", x.plan(1, 6), false);
        Check.due("no such seat", x.plan(1, -2), false);
        Check.due("no such pupil", x.plan(4, 1), false);
        Check.due("no such pupil", x.plan(-1, 1), false);
        Check.due("none", x.plan(0, -1), true);
        Check.due("none", x.pupil(0, 3), -1);
        Check.due("one planned", x.count(5), 1);
        x.sit(2, 3);
        Check.due("where another one sits", x.plan(0, 3), true);
    }

    private static void seat(BenchOrder x, int[] seats, int[] plans) {
        for (int p = 0; p < seats.length; p++) {
            x.sit(p, -1);
            x.plan(p, -1);
        }
        for (int p = 0; p < seats.length; p++) {
            Check.due("sit", x.sit(p, seats[p]), true);
            Check.due("plan", x.plan(p, plans[p]), true);
        }
    }

    private static void changes() {
        BenchOrder x = Check.of(FOUR);
        Check.due("nobody sits", x.changes(), -1);
        int[] from = {0, 1, 2, 3};
        seat(x, from, new int[] {0, 1, 2, 3});
        Check.due("as planned", x.changes(), 0);
        seat(x, from, new int[] {1, 0, 2, 3});
        Check.due("two change", x.changes(), 1);
        seat(x, from, new int[] {1, 0, 3, 2});
        Check.due("two and two", x.changes(), 2);
        seat(x, from, new int[] {1, 2, 3, 0});
        Check.due("a ring of four", x.changes(), 3);
        seat(x, from, new int[] {1, 2, 3, 4});
        Check.due("a chain to a free one", x.changes(), 4);
        seat(x, from, new int[] {4, 5, 2, 3});
        Check.due("to free ones", x.changes(), 2);
        seat(x, from, new int[] {1, 0, 4, 2});
        Check.due("a ring and a chain", x.changes(), 3);
        x.plan(0, -1);
        Check.due("not all are planned", x.changes(), -1);
        x.plan(0, 1);
        x.sit(3, -1);
        Check.due("one stands", x.changes(), -1);
        BenchOrder ten = Check.of(Check.pupils(10) + "bench row 1 worth 0;".repeat(6));
        seat(ten, new int[] {0, 1, 2, 3, 4, 5, 6, 7, 8, 9}, new int[] {9, 0, 1, 2, 3, 4, 5, 6, 7, 8});
        Check.due("a ring of ten", ten.changes(), 9);
        seat(ten, new int[] {0, 1, 2, 3, 4, 5, 6, 7, 8, 9}, new int[] {1, 0, 3, 2, 11, 4, 5, 6, 7, 8});
        Check.due("two rings and a chain of six", ten.changes(), 8);
    }

    private static void hidden() {
        BenchOrder x = Check.of("pupil a plain tall 9;pupil b plain tall 5;pupil c plain tall 5;pupil d plain tall 4;"
                + "bench row 1 worth 0;bench row 1 worth 0;bench row 5 worth 0;bench row 0 worth 9;");
        Check.due("stands", Check.hidden(x, 0), Check.THROWN);
        Check.due("none such", Check.hidden(x, 4), Check.THROWN);
        Check.due("none such", Check.hidden(x, -1), Check.THROWN);
        x.sit(0, 0);
        x.sit(1, 2);
        x.sit(2, 4);
        Check.due("in the same row", Check.hidden(x, 1), 0);
        Check.due("as tall is not taller", Check.hidden(x, 2), 1);
        x.sit(3, 5);
        Check.due("on the other side", Check.hidden(x, 3), 0);
        x.sit(2, -1);
        x.sit(3, 4);
        Check.due("both", Check.hidden(x, 3), 2);
        x.sit(2, 6);
        Check.due("three", Check.hidden(x, 3), 3);
        Check.due("the row counts, not the bench", Check.hidden(x, 1), 0);
        x.sit(2, 7);
        Check.due("the side counts", Check.hidden(x, 3), 2);
        Check.due("none is ahead of the taller", Check.hidden(x, 0), 0);
    }

    private static void marks() {
        BenchOrder x = Check.of(FOUR + "say a b 1;slip 2;wish 5;");
        Check.due("nothing is on it", x.mark(0, true), false);
        Check.due("none such", x.mark(4, false), false);
        Check.due("none such", x.mark(-1, false), false);
        Check.due("none such", x.mark(4, true), false);
        x.sit(0, 1);
        x.plan(1, 2);
        Check.due("laid", x.mark(3, false), true);
        Check.put(x, "pupil z shy tall 4;");
        x.school();
        Check.due("another school", x.count(0), 1);
        Check.put(x, "abc");
        Check.due("back", x.mark(3, true), true);
        Check.due("the tape is not on it", x.count(6), 3);
        Check.due("pupils", x.count(0), 4);
        Check.due("benches", x.count(1), 3);
        Check.due("sayings", x.count(2), 1);
        Check.due("slip", x.count(3), 2);
        Check.due("seat", x.pupil(0, 2), 1);
        Check.due("planned", x.pupil(1, 3), 2);
        Check.due("wish", x.wishes(0, 1), 5);
        Check.due("orders", x.orders(), 12);
        x.say(1, 2, 0);
        x.say(2, 3, 0);
        x.sit(0, 2);
        x.plan(1, 3);
        Check.due("orders", x.orders(), 1);
        Check.due("back again, it stays", x.mark(3, true), true);
        Check.due("what was done since is not on it", x.count(2), 1);
        Check.due("seat", x.pupil(0, 2), 1);
        Check.due("planned", x.pupil(1, 3), 2);
        Check.due("orders", x.orders(), 12);
        x.unsay();
        x.say(3, 2, 0);
        Check.due("another", x.mark(0, false), true);
        x.mark(3, true);
        Check.due("the first is untouched", x.saying(0, 0), 0);
        Check.due("over it", x.mark(0, true), true);
        Check.due("the other", x.saying(0, 0), 3);
        Check.due("laid anew", x.mark(3, false), true);
        x.unsay();
        x.mark(3, true);
        Check.due("the new one", x.saying(0, 0), 3);
        Check.due("still nothing on 1", x.mark(1, true), false);
    }

    private static void counts() {
        BenchOrder x = Check.of(FOUR + "say a b 1;slip 3;");
        x.sit(2, 2);
        x.sit(3, 3);
        x.plan(3, 3);
        Check.put(x, "four");
        int[] due = {4, 3, 1, 3, 2, 1, 4};
        for (int what = 0; what < due.length; what++) {
            Check.due("count(" + what + ")", x.count(what), due[what]);
        }
        Check.due("count(7)", x.count(7), -1);
        Check.due("count(-1)", x.count(-1), -1);
    }
}
