/** Promises 23 to 25: wishes, pairs at rest. */
final class WishTest {
    private static final String TWO = "pupil a plain tall 40;pupil b plain tall 7;";

    private WishTest() {
    }

    public static void main(String[] args) {
        law();
        kinds();
        refused();
        noOrderFits();
        rests();
        manyRests();
        Check.end();
    }

    private static void law(String law, int wish) {
        Check.due("wish " + law, Check.of(TWO + "say a b 0;like a b 3;wish " + law + ";").wishes(0, 1), wish);
    }

    private static void law() {
        law("likes", 3);
        law("tall", 40);
        law("other", 7);
        law("above", 0);
        law("below", 1);
        law("0", 0);
        law("999", 999);
        law("1000", 999);
        law("9999", 999);
        law("0-5", 0);
        law("2+3*4", 14);
        law("(2+3)*4", 20);
        law("10-3-2", 5);
        law("10-(3-2)", 9);
        law("not 0", 1);
        law("not 5", 0);
        law("not 0+6", 7);
        law("not(0+6)", 0);
        law("not 0*3", 3);
        law("not not 7", 1);
        law("2<3", 1);
        law("3<3", 0);
        law("3=3", 1);
        law("1+2=3", 1);
        law("0-1<0", 1);
        law("5 and 3", 1);
        law("5 and 0", 0);
        law("0 or 9", 1);
        law("0 or 0", 0);
        law("1 or 0 and 0", 0);
        law("1 or (0 and 0)", 1);
        law("0 and 1 or 1", 1);
        law("1<2 and 3<2", 0);
        law("(1<2)<3", 1);
        law("tall-other*5", 5);
        law("likes*100+(other<tall)*50", 350);
        law("9999*9999", 999);
        // 4096 * 4096 * 256 is 2 to the 32nd: ints wrap to 0.
        law("4096*4096*256+1", 1);
        // 2 to the 31st wraps below 0.
        law("4096*4096*128", 0);
        law("4096*4096*128-1", 999);
        law("((((likes))))+((1+((other+1))*2))", 20);
        law("1+(2*(3+(4*(5+6))))", 95);
        String waiting = "0 or 9<8+2*";
        law((waiting + "(").repeat(4) + waiting + "1))))", 1);
        law((waiting + "(").repeat(4) + waiting + "0))))", 0);
        BenchOrder x = Check.of(TWO + "like a b 3;");
        Check.due("without a line", x.wishes(0, 1), 3);
        Check.due("without a like", x.wishes(1, 0), 0);
        BenchOrder turned = Check.of(TWO + "say b a 0;wish above*2+below+tall;");
        Check.due("above him", turned.wishes(0, 1), 42);
        Check.due("below him", turned.wishes(1, 0), 8);
        law("1" + "*1".repeat(400) + "+tall", 41);
    }

    private static int wish(String kind, String more) {
        return Check.of("pupil a " + kind + " tall 1;pupil b plain tall 2;pupil c plain tall 3;" + more).wishes(0, 1);
    }

    private static void kinds() {
        String above = "say b c 0;say c a 1;say b a 0;like a b 30;";
        String below = "say a c 0;say c b 0;like a b 30;";
        String equal = "like a b 30;";
        String unliked = "say b a 0;wish 30;like a c 9;";
        String none = "say b a 0;wish 30;like a b 0;";
        String[] kinds = {"plain", "proud", "shy", "helped", "rival"};
        int[][] due = {{30, 30, 30, 30, 30}, {0, 30, 30, 0, 0}, {40, 40, 40, 30, 30}, {30, 30, 30, 30, 30},
            {50, 30, 30, 50, 50}};
        for (int k = 0; k < 5; k++) {
            Check.due(kinds[k] + " above", wish(kinds[k], above), due[k][0]);
            Check.due(kinds[k] + " below", wish(kinds[k], below), due[k][1]);
            Check.due(kinds[k] + " equal", wish(kinds[k], equal), due[k][2]);
            Check.due(kinds[k] + " unliked", wish(kinds[k], unliked), due[k][3]);
            Check.due(kinds[k] + " not at all liked", wish(kinds[k], none), due[k][4]);
        }
        Check.due("999 at most", wish("shy", "like a b 1;wish 995;"), 999);
        Check.due("999 at most", wish("rival", "say b a 0;wish 1500;"), 999);
        Check.due("above 0 at least", wish("rival", "say b a 0;wish 0-500;"), 20);
        Check.due("above 0 at least", wish("shy", "like a b 1;wish 0-500;"), 10);
    }

    private static void refused() {
        BenchOrder x = Check.of(TWO);
        Check.due("the same", x.wishes(0, 0), -1);
        Check.due("none such", x.wishes(0, 2), -1);
        Check.due("none such", x.wishes(2, 0), -1);
        Check.due("none such", x.wishes(-1, 0), -1);
        for (int n = 0; n <= 10; n++) {
            boolean paired = n == 2 || n == 4 || n == 6 || n == 8;
            Check.due("rests of " + n, Check.of(Check.pupils(n)).rests() > 0, paired);
            Check.due("rest of " + n, Check.of(Check.pupils(n)).rest(0, 0), paired ? 1 : -1);
        }
        Check.due("none such", x.rest(0, 2), -1);
        Check.due("none such", x.rest(0, -1), -1);
        Check.due("none such", x.rest(1, 0), -1);
        Check.due("none such", x.rest(-1, 0), -1);
    }

    private static void noOrderFits() {
        String ring = "say b a 0;say a b 1;";
        Check.due("nobody is surely above", wish("proud", ring + "like a b 30;"), 30);
        Check.due("nobody is surely above", wish("rival", ring + "like a b 30;"), 30);
        Check.due("nobody is surely above", wish("plain", ring + "wish 5+above+below;"), 5);
    }

    private static void rests() {
        BenchOrder x = Check.of(Check.pupils(4) + "like a b 3;like b a 3;like c d 1;like d c 1;");
        Check.due("one alone", x.rests(), 1);
        int[] mates = {1, 0, 3, 2};
        for (int p = 0; p < 4; p++) {
            Check.due("mate", x.rest(0, p), mates[p]);
        }
        // Each likes the next of three best, nobody the fourth: whoever sits by d goes away.
        BenchOrder never = Check.of(Check.pupils(4) + "like a b 2;like b c 2;like c a 2;like a c 1;like b a 1;"
                + "like c b 1;");
        Check.due("no rest", never.rests(), 0);
        Check.due("none such", never.rest(0, 0), -1);
        BenchOrder one = Check.of(Check.pupils(4) + "like a b 3;");
        Check.due("one alone would", one.rests(), 3);
        for (int i = 0; i < 3; i++) {
            Check.due("in the order of mates", one.rest(i, 0), i + 1);
        }
        Check.due("mate", one.rest(1, 1), 3);
        Check.due("mate", one.rest(2, 2), 1);
        Check.due("equal is not greater", Check.of(Check.pupils(4) + "wish 5;").rests(), 3);
    }

    private static void manyRests() {
        BenchOrder x = Check.of(Check.pupils(8));
        Check.due("all", x.rests(), 105);
        Check.due("the last", x.rest(104, 0), 7);
        Check.due("the last", x.rest(104, 1), 6);
        Check.due("the last", x.rest(104, 2), 5);
        Check.due("the last", x.rest(104, 3), 4);
        Check.due("the second", x.rest(1, 0), 1);
        Check.due("the second", x.rest(1, 2), 3);
        Check.due("the second", x.rest(1, 4), 6);
        Check.due("the fourth", x.rest(3, 2), 4);
        Check.due("the sixteenth", x.rest(15, 0), 2);
        Check.due("the sixteenth", x.rest(15, 1), 3);
        Check.due("beyond", x.rest(105, 0), -1);
        Check.due("six", Check.of(Check.pupils(6)).rests(), 15);
    }
}
