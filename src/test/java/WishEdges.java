/** The edges of promises 23 to 26: wishes, pairs at rest, seasons, sentence by sentence. */
final class WishEdges {
    private static final int LEAST = Integer.MIN_VALUE;
    private static final int GREATEST = Integer.MAX_VALUE;
    private static final String TWO = "pupil a plain tall 40;pupil b plain tall 7;";

    private WishEdges() {
    }

    static void all() {
        facts();
        truths();
        wraps();
        bounds();
        kinds();
        noOrderFits();
        wishesRefused();
        restsOfHowMany();
        restless();
        restOrder();
        restRefused();
        seasonRefused();
        seasonDays();
        seasonDropped();
        seasonSlips();
        seasonDraws();
        seasonLeaves();
    }

    // ---- promise 23

    private static void law(String law, int due) {
        Check.due("wish " + law, Check.of(TWO + "say a b 0;like a b 3;wish " + law + ";").wishes(0, 1), due);
    }

    private static void facts() {
        Check.edge(23, "Facts (of one who wishes and the other one)");
        BenchOrder x = Check.of(TWO + "like a b 3;like b a 5;wish likes;");
        Check.due("likes", x.wishes(0, 1), 3);
        Check.due("likes", x.wishes(1, 0), 5);
        x = Check.of(TWO + "wish tall;");
        Check.due("tall", x.wishes(0, 1), 40);
        Check.due("tall", x.wishes(1, 0), 7);
        x = Check.of(TWO + "wish other;");
        Check.due("other", x.wishes(0, 1), 7);
        Check.due("other", x.wishes(1, 0), 40);
        Check.edge(23, "above, below (1 if that one is SURELY above, below the first, else 0)");
        String three = TWO + "pupil c plain tall 1;";
        x = Check.of(three + "say c b 0;say b a 1;wish above+2*below;");
        int[][] due = {{0, 1, 1}, {2, 0, 1}, {2, 2, 0}};
        for (int a = 0; a < 3; a++) {
            for (int b = 0; b < 3; b++) {
                Check.due(a + " by " + b, x.wishes(a, b), a == b ? -1 : due[a][b]);
            }
        }
        x = Check.of(three + "say c b 0;wish 5+above+2*below;");
        Check.due("neither", x.wishes(0, 1), 5);
        Check.edge(23, "Without a line it is likes");
        Check.due("without", Check.of(TWO + "like a b 3;").wishes(0, 1), 3);
        x = Check.of(TWO + "wish 9;");
        Check.due("a line", x.wishes(0, 1), 9);
        Check.read(x, TWO + "wish 2+3;");
        Check.due("another line", x.wishes(0, 1), 5);
        Check.read(x, TWO + "wish 7-(");
        Check.read(x, TWO + "wish 4*2;");
        Check.due("a line behind a fault", x.wishes(0, 1), 8);
        Check.read(x, TWO + "like a b 4;");
        Check.due("without, behind one with", x.wishes(0, 1), 4);
    }

    private static void truths() {
        Check.edge(23, "Of not, and, or, < and = comes 1 or 0; what is not 0 is so");
        String[] one = {"not 0", "not not 7", "not(0-0)", "5 and 3", "2 and(0-1)", "0 or 9", "9 or 0", "9 or 9", "2<3",
            "0<1", "(0-1)<0", "3=3", "0=0", "not 3=0", "1+2=3", "(not 0-1)=0", "not(not 9=1)=1"};
        for (String law : one) {
            law(law, 1);
        }
        String[] none = {"not 1", "not 9", "not(0-1)", "not not 0", "5 and 0", "0 and 5", "0 and 0", "0 or 0", "3<3",
            "3<2", "0<(0-1)", "3=2", "1<2 and 2<1"};
        for (String law : none) {
            law(law, 0);
        }
        Check.edge(23, "from the left");
        law("1 or 0 and 0", 0);
        law("1 or(0 and 0)", 1);
        law("0 and 1 or 1", 1);
        law("0 and(1 or 1)", 0);
        law("10-3-2", 5);
        law("10-(3-2)", 9);
        law("2+3*4", 14);
        law("2*3+4", 10);
        law("(2+3)*4", 20);
        law("1+1<1+2", 1);
        law("7 and 2<3", 1);
        law("not 0*7", 7);
        law("not 0+7", 8);
    }

    private static void wraps() {
        Check.edge(23, "ints wrap");
        law("4096*4096*256", 0);
        law("4096*4096*256+7", 7);
        law("4096*4096*127", 999);
        law("4096*4096*128", 0);
        law("4096*4096*128-1", 999);
        law("4096*4096*128-1<0", 0);
        law("4096*4096*128<0", 1);
        law("0-4096*4096*128<0", 1);
        law("(4096*4096*128)+(4096*4096*128)+6", 6);
        law("(0-1)*(4096*4096*255)*256+5", 5);
        Check.edge(23, "PRODUCT { + or - PRODUCT }; PART { * PART }");
        law("1" + "*1".repeat(400) + "+tall", 41);
        law("1" + "+1".repeat(400), 401);
        law("0" + " or 0".repeat(150), 0);
        law("0 or 9<8+2*(0 or 9<8+2*(0 or 9<8+2*(0 or 9<8+2*(0 or 9<8+2*1))))", 1);
        law("0 or 9<8+2*(0 or 9<8+2*(0 or 9<8+2*(0 or 9<8+2*(0 or 9<8+2*0))))", 0);
    }

    private static void bounds() {
        Check.edge(23, "the E of wish, 0 below it, 999 above");
        law("0", 0);
        law("1", 1);
        law("0-1", 0);
        law("0-9999", 0);
        law("998", 998);
        law("999", 999);
        law("1000", 999);
        law("9999", 999);
        law("9999*9999", 999);
    }

    private static int wish(String kind, String more) {
        return Check.of("pupil a " + kind + " tall 1;pupil b plain tall 2;pupil c plain tall 3;" + more).wishes(0, 1);
    }

    private static void kinds() {
        Check.edge(23, "a proud one's is 0 for one who is SURELY above");
        Check.due("said", wish("proud", "wish 30;say b a 0;"), 0);
        Check.due("not said, but sure", wish("proud", "wish 30;say b c 0;say c a 1;"), 0);
        Check.due("below", wish("proud", "wish 30;say a b 0;"), 30);
        Check.due("neither", wish("proud", "wish 30;say b c 0;"), 30);
        Check.due("liked, above", wish("proud", "like a b 9;say b a 0;"), 0);
        Check.edge(23, "a shy one's is 10 more for one whom it likes (above 0)");
        Check.due("liked", wish("shy", "wish 30;like a b 1;"), 40);
        Check.due("liked by 0", wish("shy", "wish 30;like a b 0;"), 30);
        Check.due("not told", wish("shy", "wish 30;like a c 9;"), 30);
        Check.due("liked by the other", wish("shy", "wish 30;like b a 9;"), 30);
        Check.due("above", wish("shy", "wish 30;say b a 0;"), 30);
        Check.due("more than 0 below it", wish("shy", "wish 0-30;like a b 1;"), 10);
        Check.edge(23, "a rival's is 20 more for one SURELY above");
        Check.due("above", wish("rival", "wish 30;say b a 0;"), 50);
        Check.due("below", wish("rival", "wish 30;say a b 0;"), 30);
        Check.due("neither", wish("rival", "wish 30;like a b 9;"), 30);
        Check.due("more than 0 below it", wish("rival", "wish 0-30;say b a 0;"), 20);
        Check.edge(23, "999 at most");
        Check.due("989 and 10", wish("shy", "wish 989;like a b 1;"), 999);
        Check.due("990 and 10", wish("shy", "wish 990;like a b 1;"), 999);
        Check.due("988 and 10", wish("shy", "wish 988;like a b 1;"), 998);
        Check.due("979 and 20", wish("rival", "wish 979;say b a 0;"), 999);
        Check.due("980 and 20", wish("rival", "wish 980;say b a 0;"), 999);
        Check.due("9999 and 20", wish("rival", "wish 9999;say b a 0;"), 999);
        for (String kind : new String[] {"plain", "helped"}) {
            Check.due(kind, wish(kind, "wish 30;like a b 1;say b a 0;"), 30);
        }
        Check.due("the other one's kind is no matter",
                Check.of("pupil a plain tall 1;pupil b proud tall 1;say b a 0;wish 7;").wishes(0, 1), 7);
    }

    private static void noOrderFits() {
        Check.edge(23, "SURE: ahead in all ORDERS that FIT (if there is one)");
        String ring = "say b a 0;say a b 1;";
        Check.due("proud", wish("proud", ring + "wish 30;"), 30);
        Check.due("rival", wish("rival", ring + "wish 30;"), 30);
        Check.due("above, below", wish("plain", ring + "wish 5+above+below;"), 5);
        Check.due("in another ring", wish("proud", "say b a 0;say b c 0;say c b 0;wish 30;"), 30);
    }

    private static void wishesRefused() {
        Check.edge(23, "NONE: others, the same");
        BenchOrder x = Check.of(TWO + "wish 5;");
        for (int p : new int[] {-1, 2, 3, 9, 10, 32, LEAST, GREATEST}) {
            Check.due("first " + p, x.wishes(p, 0), -1);
            Check.due("other " + p, x.wishes(0, p), -1);
            Check.due("both " + p, x.wishes(p, p), -1);
        }
        Check.due("the same", x.wishes(0, 0), -1);
        Check.due("the same", x.wishes(1, 1), -1);
        BenchOrder ten = Check.of(Check.pupils(10) + "wish tall*10+other;");
        Check.due("the last two of ten", ten.wishes(9, 8), 98);
    }

    // ---- promises 24 and 25

    private static void restsOfHowMany() {
        Check.edge(24, "NONE: others than 2, 4, 6, 8 PUPILS");
        int[] due = {-1, -1, 1, -1, 3, -1, 15, -1, 105, -1, -1};
        for (int n = 0; n <= 10; n++) {
            BenchOrder x = Check.of(Check.pupils(n));
            Check.due("rests of " + n, x.rests(), due[n]);
            Check.edge(25, "NONE: others");
            Check.due("rest of " + n, x.rest(0, 0), due[n] > 0 ? 1 : -1);
            Check.due("the last rest of " + n, x.rest(due[n] - 1, 0), due[n] > 0 ? n - 1 : -1);
            Check.due("a rest beyond, of " + n, x.rest(Math.max(due[n], 0), 0), -1);
            Check.edge(24, "NONE: others than 2, 4, 6, 8 PUPILS");
        }
    }

    private static void restless() {
        Check.edge(24, "no two who are not a pair would both have a greater WISH by one another than they have");
        String four = Check.pupils(4);
        Check.due("all wish alike", Check.of(four + "wish 5;").rests(), 3);
        Check.due("one alone would", Check.of(four + "like a b 3;").rests(), 3);
        Check.due("both would", Check.of(four + "like a b 3;like b a 3;").rests(), 1);
        Check.due("both would, the last two", Check.of(four + "like c d 3;like d c 1;").rests(), 1);
        Check.due("as great is not greater",
                Check.of(four + "like a b 3;like b a 3;like a c 3;like c a 3;").rests(), 2);
        Check.due("by one he likes as much", Check.of(four + "like a b 3;like b a 3;like b d 3;").rests(), 2);
        Check.due("there may be none",
                Check.of(four + "like a b 2;like b c 2;like c a 2;like a c 1;like b a 1;like c b 1;").rests(), 0);
        Check.due("two who can but sit together", Check.of(Check.pupils(2) + "wish 0;").rests(), 1);
        String law = Check.pupils(4) + "wish above*5+below*3;";
        Check.due("two said, nothing asked before", Check.of(law + "say d c 0;say c a 1;").rests(), 2);
        BenchOrder x = Check.of(law);
        int[] due = {3, 1, 2, 1, 3};
        for (int i = 0; i < 5; i++) {
            Check.due("the " + i + "-th time", x.rests(), due[i]);
            Check.due("rest beyond, the " + i + "-th time", x.rest(due[i], 0), -1);
            if (i < 2) {
                Check.say(x, i == 0 ? "dc" : "ca1");
            } else {
                x.unsay();
            }
        }
    }

    private static void restOrder() {
        Check.edge(25, "in the order of by whom PUPIL 0 sits, then the first of the others, and so on");
        BenchOrder x = Check.of(Check.pupils(6));
        int[][] due = {{1, 0, 3, 2, 5, 4}, {1, 0, 4, 5, 2, 3}, {1, 0, 5, 4, 3, 2}, {2, 3, 0, 1, 5, 4}, {2, 4, 0, 5, 1, 3},
            {2, 5, 0, 4, 3, 1}, {3, 2, 1, 0, 5, 4}, {3, 4, 5, 0, 1, 2}, {3, 5, 4, 0, 2, 1}, {4, 2, 1, 5, 0, 3},
            {4, 3, 5, 1, 0, 2}, {4, 5, 3, 2, 0, 1}, {5, 2, 1, 4, 3, 0}, {5, 3, 4, 1, 2, 0}, {5, 4, 3, 2, 1, 0}};
        for (int i = 0; i < 15; i++) {
            for (int p = 0; p < 6; p++) {
                Check.due("rest " + i + " of " + p, x.rest(i, p), due[i][p]);
            }
        }
        Check.edge(25, "the i-th of these");
        BenchOrder some = Check.of(Check.pupils(4) + "like a b 3;like b a 3;like b d 3;");
        int[][] left = {{1, 0, 3, 2}, {2, 3, 0, 1}};
        for (int i = 0; i < 2; i++) {
            for (int p = 0; p < 4; p++) {
                Check.due("rest " + i + " of " + p, some.rest(i, p), left[i][p]);
            }
        }
        Check.due("no third", some.rest(2, 0), -1);
        BenchOrder eight = Check.of(Check.pupils(8));
        for (int p = 0; p < 8; p++) {
            Check.due("the first", eight.rest(0, p), p ^ 1);
            Check.due("the last", eight.rest(104, p), 7 - p);
        }
    }

    private static void restRefused() {
        Check.edge(25, "NONE: others");
        BenchOrder x = Check.of(Check.pupils(4));
        for (int p : new int[] {-1, 4, 5, 8, 16, LEAST, GREATEST}) {
            Check.due("pupil " + p, x.rest(0, p), -1);
        }
        for (int i : new int[] {-1, 3, 4, 105, LEAST, GREATEST}) {
            Check.due("rest " + i, x.rest(i, 0), -1);
        }
        BenchOrder none = Check.of(Check.pupils(4)
                + "like a b 2;like b c 2;like c a 2;like a c 1;like b a 1;like c b 1;");
        Check.due("there is none", none.rest(0, 0), -1);
        Check.due("six, beyond the last pupil", Check.of(Check.pupils(6)).rest(0, 6), -1);
    }

    // ---- promise 26

    private static void seasonRefused() {
        Check.edge(26, "a SEED (0 to 9999)");
        BenchOrder x = Check.with(2, "");
        for (int seed : new int[] {0, 1, 9998, 9999}) {
            Check.due("seed " + seed, x.season(seed, 0), 1);
            Check.due("seed " + seed, x.season(seed, 1), 0);
        }
        Check.edge(26, "NONE: others");
        for (int seed : new int[] {-1, 10000, 10001, LEAST, GREATEST}) {
            Check.due("seed " + seed, x.season(seed, 0), -1);
            Check.due("seed " + seed, x.season(seed, 1), -1);
        }
        for (int what : new int[] {-1, 2, 3, LEAST, GREATEST}) {
            Check.due("what " + what, x.season(5, what), -1);
        }
        Check.edge(26, "NONE: fewer than two PUPILS");
        for (int what = 0; what < 2; what++) {
            Check.due("nobody", new BenchOrder().season(5, what), -1);
            Check.due("one", Check.with(1, "").season(5, what), -1);
        }
    }

    private static void seasonDays() {
        Check.edge(26, "Behind how many days (0 to 100) just one ORDER FITS");
        Check.due("0 days", Check.with(3, "ca ab").season(7, 0), 0);
        Check.due("0 days of ten", Check.with(10, "ab bc cd de ef fg gh hi ij").season(7, 0), 0);
        Check.due("1 day", Check.with(2, "").season(7, 0), 1);
        BenchOrder four = Check.of(Check.pupils(4) + "slip 1;");
        Check.due("99 days", four.season(3656, 0), 99);
        Check.due("100 days", four.season(3100, 0), 100);
        Check.edge(26, "NONE: not within 100");
        // By the draws just one fits behind 101 days.
        Check.due("101 days", four.season(1413, 0), -1);
        // Each day says a b: the b a is the oldest and goes when a 41st comes.
        Check.edge(26, "SAYINGS are no more than the last 40 then");
        Check.due("behind the first day", Check.with(2, "ba" + " ab".repeat(39)).season(3, 0), 1);
        Check.due("behind the 39th", Check.with(2, "ba ab").season(3, 0), 39);
        Check.due("behind the 40th", Check.with(2, "ab ".repeat(39) + "ba").season(3, 0), 40);
    }

    private static void seasonDropped() {
        Check.edge(26, "what is DROPPED behind 20 days");
        String ab = " ab";
        Check.due("the first goes on the first day", Check.with(2, "ba" + ab.repeat(39)).season(3, 1), 0);
        Check.due("that which goes on the 20th", Check.with(2, ab.repeat(19) + " ba" + ab.repeat(20)).season(3, 1), 0);
        Check.due("that which goes on the 21st", Check.with(2, ab.repeat(20) + " ba" + ab.repeat(19)).season(3, 1), 1);
        Check.due("both masters' sayings", Check.with(2, "ab1 ba1 ab").season(3, 1), 1);
        Check.edge(26, "he who is ahead in the ROW of the beginning is said to be better");
        Check.due("nothing is dropped without slip", Check.with(5, "ea db").season(77, 1), 0);
        Check.due("the row of a ring", Check.with(2, "ba ab").season(9, 1), 1);
    }

    /** The draws as the document tells them, for two PUPILS: how many of 20 days say the one who is behind. */
    private static int slipsOfTwo(int seed, int slip, int days) {
        long g = seed;
        int slips = 0;
        for (int day = 0; day < days; day++) {
            for (int m : new int[] {2, 1, 8}) {
                g = (g * 1103515245L + 12345L) % 2147483648L;
                if (m == 8 && g / 65536 % m < slip) {
                    slips++;
                }
            }
        }
        return slips;
    }

    private static void seasonSlips() {
        Check.edge(26, "but if a DRAW below 8 is below slip the other one");
        for (int slip = 0; slip <= 3; slip++) {
            for (int seed = 0; seed < 10000; seed += 271) {
                int slips = slipsOfTwo(seed, slip, 20);
                BenchOrder x = Check.of(Check.pupils(2) + "slip " + slip + ";");
                Check.due("slip " + slip + ", seed " + seed, x.season(seed, 1), Math.min(slips, 20 - slips));
                BenchOrder helped = Check.of("pupil a helped tall 1;pupil b helped tall 1;slip " + slip + ";");
                Check.due("helped ones slip as others", helped.season(seed, 1), Math.min(slips, 20 - slips));
            }
        }
    }

    /** By the plain model: days and what is dropped, without slip and with slip 2. */
    private static void seasonDraws() {
        Check.edge(26, "a DRAW below the PUPILS tells one, a DRAW below one less the other of the rest (in order)");
        int[] seeds = {0, 1, 2, 9999};
        int[][] due = {{3, 0, 3, 4, 2, 0, -1, 6, 1, 0, 1, 3, 1, 0, -1, 7}, {9, 0, -1, 4, 6, 0, -1, 5, 2, 0, 2, 3, 5, 0, 3, 7},
            {30, 0, -1, 4, 10, 0, -1, 5, 8, 0, -1, 1, 6, 0, -1, 6}};
        for (int n = 3; n <= 5; n++) {
            for (int i = 0; i < 16; i++) {
                BenchOrder x = Check.of(Check.pupils(n) + "slip " + i % 4 / 2 * 2 + ";say c a 0;");
                Check.due(n + " pupils, seed " + seeds[i / 4], x.season(seeds[i / 4], i % 2), due[n - 3][i]);
            }
        }
    }

    private static void seasonLeaves() {
        Check.edge(26, "from the SAYINGS as they are");
        BenchOrder x = Check.of(Check.pupils(4) + "slip 3;say d a 0;bench row 1 worth 1;");
        x.sit(0, 1);
        x.mark(2, false);
        String before = Check.state(x);
        int days = x.season(12, 0);
        int dropped = x.season(12, 1);
        Check.same("a season", Check.state(x), before);
        Check.due("the same days again", x.season(12, 0), days);
        Check.due("the same again", x.season(12, 1), dropped);
        Check.due("behind a master's", x.dropped(1), 0);
        Check.due("the row is that of both", x.season(12, 1), dropped);
        x.mark(2, true);
        Check.same("the mark", Check.state(x), before);
    }
}
