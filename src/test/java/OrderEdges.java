/** The edges of promises 8 to 18: what follows, what is dropped, chances, what to ask, sentence by sentence. */
final class OrderEdges {
    private static final int LEAST = Integer.MIN_VALUE;
    private static final int GREATEST = Integer.MAX_VALUE;
    private static final int[] NO_PUPIL = {-1, 3, 4, 9, 10, 11, 31, 32, 64, LEAST, GREATEST};
    private static final String ROW_OF_TEN = "ab bc cd de ef fg gh hi ij";

    private OrderEdges() {
    }

    static void all() {
        orders();
        sure();
        sureRefused();
        span();
        dropped();
        row();
        rowOfRing();
        helped();
        unlike();
        chanceRefused();
        chance();
        chanceOfSlips();
        next();
        nextRefused();
        needed();
        newOnePlaces();
        newOneRefused();
    }

    private static void orders() {
        Check.edge(8, "How many ORDERS FIT");
        Check.due("nobody's", new BenchOrder().orders(), 1);
        Check.due("of one", Check.with(1, "").orders(), 1);
        Check.due("of two", Check.with(2, "").orders(), 2);
        Check.due("of two, one said", Check.with(2, "ba").orders(), 1);
        Check.due("of two, both said", Check.with(2, "ba ab").orders(), 0);
        Check.due("of two, both said by two", Check.with(2, "ba ab1").orders(), 0);
        Check.due("of two, the same forty times", Check.with(2, "ba ".repeat(40)).orders(), 1);
        Check.due("of ten", Check.with(10, "").orders(), 3628800);
        Check.due("of ten, the last two", Check.with(10, "ij").orders(), 1814400);
        Check.due("a row of ten", Check.with(10, ROW_OF_TEN).orders(), 1);
        Check.due("a ring of ten", Check.with(10, ROW_OF_TEN + " ja").orders(), 0);
        Check.due("a ring of three among ten", Check.with(10, "hi ij jh").orders(), 0);
        Check.edge(8, "It FITS if the first of each SAYING stands ahead of the second one");
        Check.due("a fan", Check.with(4, "ab ac ad").orders(), 6);
        Check.due("a fan the other way round", Check.with(4, "ba ca da1").orders(), 6);
        BenchOrder x = Check.with(3, "ab");
        Check.due("three", x.orders(), 3);
        x.say(1, 2, 1);
        Check.due("one", x.orders(), 1);
        x.unsay();
        Check.due("three again", x.orders(), 3);
    }

    private static void sure() {
        Check.edge(9, "1: the first is above, 2: the second; 0: neither");
        BenchOrder x = Check.with(4, "ba cb1");
        Check.due("said", x.sure(1, 0), 1);
        Check.due("said", x.sure(0, 1), 2);
        Check.due("not said, but sure", x.sure(2, 0), 1);
        Check.due("not said, but sure", x.sure(0, 2), 2);
        for (int p = 0; p < 3; p++) {
            Check.due("neither", x.sure(3, p), 0);
            Check.due("neither", x.sure(p, 3), 0);
        }
        Check.due("by the first pupil", Check.with(3, "ba ac").sure(1, 2), 1);
        Check.due("by the last pupil", Check.with(3, "ac cb").sure(0, 1), 1);
        BenchOrder ten = Check.with(10, ROW_OF_TEN);
        Check.due("the ends of a row of ten", ten.sure(0, 9), 1);
        Check.due("the ends of a row of ten", ten.sure(9, 0), 2);
        BenchOrder turned = Check.with(10, "ji ih hg gf fe ed dc cb ba");
        Check.due("the ends of the row turned", turned.sure(9, 0), 1);
    }

    private static void sureRefused() {
        Check.edge(9, "NONE: others, the same");
        BenchOrder x = Check.with(3, "ab");
        for (int p : NO_PUPIL) {
            Check.due("first " + p, x.sure(p, 0), -1);
            Check.due("second " + p, x.sure(0, p), -1);
        }
        for (int p = 0; p < 3; p++) {
            Check.due("the same", x.sure(p, p), -1);
        }
        Check.edge(9, "NONE: no ORDER FITS");
        Check.say(x, "ba1");
        Check.due("said both ways", x.sure(0, 1), -1);
        Check.due("of whom nothing is said", x.sure(0, 2), -1);
        x.unsay();
        Check.due("an order fits again", x.sure(0, 1), 1);
    }

    private static void span() {
        Check.edge(10, "SPAN, what 0: least, 1: greatest");
        BenchOrder x = Check.with(5, "ab bc de");
        int[][] due = {{0, 2}, {1, 3}, {2, 4}, {0, 3}, {1, 4}};
        for (int p = 0; p < 5; p++) {
            Check.due("least", x.span(p, 0), due[p][0]);
            Check.due("greatest", x.span(p, 1), due[p][1]);
        }
        BenchOrder turned = Check.with(5, "ed cb ba");
        int[][] turnedDue = {{2, 4}, {1, 3}, {0, 2}, {1, 4}, {0, 3}};
        for (int p = 0; p < 5; p++) {
            Check.due("least, turned", turned.span(p, 0), turnedDue[p][0]);
            Check.due("greatest, turned", turned.span(p, 1), turnedDue[p][1]);
        }
        BenchOrder ten = Check.with(10, "");
        Check.due("anywhere", ten.span(9, 0), 0);
        Check.due("anywhere", ten.span(0, 1), 9);
        Check.say(ten, ROW_OF_TEN);
        for (int p = 0; p < 10; p++) {
            Check.due("known", ten.span(p, 0), p);
            Check.due("known", ten.span(p, 1), p);
        }
        Check.due("alone", Check.with(1, "").span(0, 0), 0);
        Check.due("alone", Check.with(1, "").span(0, 1), 0);
        Check.edge(10, "NONE: others");
        BenchOrder three = Check.with(3, "ab");
        for (int p : NO_PUPIL) {
            Check.due("pupil " + p, three.span(p, 0), -1);
            Check.due("pupil " + p, three.span(p, 1), -1);
        }
        for (int what : new int[] {-1, 2, 3, LEAST, GREATEST}) {
            Check.due("what " + what, three.span(0, what), -1);
        }
        Check.edge(10, "NONE: no ORDER FITS");
        Check.say(three, "ba");
        for (int p = 0; p < 3; p++) {
            Check.due("least", three.span(p, 0), -1);
            Check.due("greatest", three.span(p, 1), -1);
        }
    }

    private static void dropped() {
        Check.edge(11, "DROPPED by a MASTER's SAYINGS (NONE: both)");
        BenchOrder x = Check.with(3, "ab ba1 ba1 bc cb1");
        Check.due("each agrees with himself", x.dropped(0), 0);
        Check.due("each agrees with himself", x.dropped(1), 0);
        Check.due("both", x.dropped(-1), 2);
        Check.due("master 0 again", x.dropped(0), 0);
        Check.say(x, "ba");
        Check.due("master 0", x.dropped(0), 1);
        Check.due("master 1", x.dropped(1), 0);
        Check.say(x, "ab1");
        Check.due("master 1", x.dropped(1), 1);
        Check.due("both", x.dropped(-1), 3);
        Check.due("an order fits", Check.with(3, "ab bc").dropped(-1), 0);
        Check.due("no sayings", Check.with(3, "").dropped(0), 0);
        Check.due("of a ring one goes", Check.with(10, ROW_OF_TEN + " ja").dropped(-1), 1);
        Check.due("the lesser part goes", Check.with(2, "ab ba ba").dropped(-1), 1);
        Check.due("twenty of forty", Check.with(2, "ab ba ".repeat(20)).dropped(-1), 20);
        Check.due("twenty of forty, of the last two", Check.with(10, "ij ji1 ".repeat(20)).dropped(-1), 20);
        Check.due("thirteen of forty", Check.with(3, "ab bc ca ".repeat(13) + "ab").dropped(-1), 13);
        Check.edge(11, "-2: others");
        for (int master : new int[] {-2, -3, 2, 3, LEAST, GREATEST}) {
            Check.due("master " + master, x.dropped(master), -2);
            Check.due("master " + master + " of nobody", new BenchOrder().dropped(master), -2);
        }
    }

    private static void rowDue(String told, BenchOrder x, String due) {
        for (int i = 0; i < due.length(); i++) {
            Check.due("the " + i + "-th of " + told, x.row(i), due.charAt(i) - 'a');
        }
        Check.due("behind the last of " + told, x.row(due.length()), -1);
    }

    private static void row() {
        Check.edge(12, "the first ORDER (by numbers of PUPILS) with so few of both");
        rowDue("nothing said", Check.with(4, ""), "abcd");
        rowDue("one last", Check.with(4, "ba ca da"), "bcda");
        rowDue("d ahead of a", Check.with(4, "da"), "bcda");
        rowDue("d ahead of b", Check.with(4, "db"), "acdb");
        rowDue("ten turned", Check.with(10, "ji ih hg gf fe ed dc cb ba"), "jihgfedcba");
        rowDue("both say so", Check.with(3, "cb ba1"), "cba");
        Check.edge(12, "NONE: none such");
        BenchOrder x = Check.with(3, "ab ba");
        for (int i : NO_PUPIL) {
            Check.due("row(" + i + ")", x.row(i), -1);
        }
    }

    private static void rowOfRing() {
        Check.edge(12, "the first ORDER (by numbers of PUPILS) with so few of both");
        rowDue("a ring of two", Check.with(2, "ba ab"), "ab");
        rowDue("said more often", Check.with(2, "ba ab ba"), "ba");
        rowDue("a ring of three", Check.with(3, "ab bc ca"), "abc");
        rowDue("a ring of three the other way round", Check.with(3, "cb ba ac"), "acb");
        rowDue("the weakest goes", Check.with(3, "ab bc bc ca ca"), "bca");
        rowDue("both masters count", Check.with(3, "ab ba1 ba1 bc"), "bac");
        BenchOrder x = Check.with(3, "ba ba1 ac cb ac1");
        Check.due("one is dropped", x.dropped(-1), 1);
        rowDue("one dropped", x, "bac");
        Check.due("a master's", x.dropped(1), 0);
        rowDue("one dropped, behind a master's", x, "bac");
        rowDue("said forty times", Check.with(10, "ja ".repeat(40)), "bcdefghija");
    }

    private static void helped() {
        Check.edge(13, "HELPED, as bits (0 if an ORDER FITS)");
        Check.due("nobody", new BenchOrder().helped(), 0);
        Check.due("nothing said", Check.with(3, "").helped(), 0);
        Check.due("an order fits", Check.with(10, ROW_OF_TEN).helped(), 0);
        Check.edge(13, "without whose SAYINGS (those that name them) some ORDER FITS, if none does as it is");
        Check.due("a ring of two", Check.with(3, "bc cb").helped(), 6);
        Check.due("a ring, one outside", Check.with(4, "ab bc ca ad").helped(), 7);
        Check.due("a ring of ten", Check.with(10, ROW_OF_TEN + " ja").helped(), 1023);
        Check.due("two rings, one in both", Check.with(5, "ab ba1 ac cd da").helped(), 1);
        Check.due("two rings, two in both", Check.with(4, "ab bc ca bd da").helped(), 3);
        Check.due("two rings, none in both", Check.with(4, "ab ba cd dc").helped(), 0);
        Check.due("the last two", Check.with(10, "ij ji").helped(), 768);
        BenchOrder x = Check.with(2, "ab ba");
        x.unsay();
        Check.due("an order fits again", x.helped(), 0);
    }

    private static void unlike() {
        Check.edge(14, "pairs of which the MASTERS say unlike things");
        Check.due("nobody", new BenchOrder().unlike(), 0);
        Check.due("alike", Check.with(2, "ab ab1").unlike(), 0);
        Check.due("unlike", Check.with(2, "ab ba1").unlike(), 1);
        Check.edge(14, "each one at least once");
        Check.due("master 0 alone", Check.with(2, "ab ba").unlike(), 0);
        Check.due("master 1 alone", Check.with(2, "ab1 ba1").unlike(), 0);
        Check.due("of another pair", Check.with(3, "ab ba bc1 ca1").unlike(), 0);
        Check.due("one master both, one once", Check.with(2, "ab ba ab1").unlike(), 1);
        Check.due("one master both, one once", Check.with(2, "ab ab1 ba1").unlike(), 1);
        Check.due("a pair once", Check.with(2, "ab ba1 ab ba1 ba ab1").unlike(), 1);
        Check.edge(14, "either way round");
        Check.due("the other way round", Check.with(2, "ba ab1").unlike(), 1);
        Check.due("master 1 first", Check.with(2, "ba1 ab").unlike(), 1);
        Check.due("one each way", Check.with(4, "ab ba1 dc cd1").unlike(), 2);
        Check.due("the last two", Check.with(10, "ij ji1").unlike(), 1);
        Check.due("the fortieth saying", Check.with(3, "ab ".repeat(39) + "ba1").unlike(), 1);
    }

    private static void fraction(BenchOrder x, int a, int b, long above, long below) {
        Check.due("above, " + a + " over " + b, x.chance(a, b, 0), above);
        Check.due("below, " + a + " over " + b, x.chance(a, b, 1), below);
    }

    private static void chanceRefused() {
        Check.edge(15, "NONE: others, the same");
        BenchOrder x = Check.with(3, "ab");
        for (int p : NO_PUPIL) {
            Check.due("first " + p, x.chance(p, 0, 0), -1);
            Check.due("second " + p, x.chance(0, p, 1), -1);
        }
        for (int p = 0; p < 3; p++) {
            Check.due("the same", x.chance(p, p, 0), -1);
            Check.due("the same", x.chance(p, p, 1), -1);
        }
        for (int what : new int[] {-1, 2, 3, LEAST, GREATEST}) {
            Check.due("what " + what, x.chance(0, 1, what), -1);
        }
        Check.edge(15, "NONE: more than 12 SAYINGS");
        BenchOrder many = Check.of(Check.pupils(3) + "slip 1;" + "say a b 0;".repeat(11) + "say b c 1;");
        Check.due("12", many.chance(0, 1, 1) > 0, true);
        many.say(0, 1, 0);
        Check.due("13", many.chance(0, 1, 0), -1);
        Check.due("13", many.chance(0, 1, 1), -1);
        many.unsay();
        Check.due("12 again", many.chance(0, 1, 1) > 0, true);
        Check.due("40", Check.with(2, "ab ".repeat(40)).chance(0, 1, 0), -1);
        Check.edge(15, "NONE: no ORDER counts");
        BenchOrder ring = Check.with(4, "ab bc ca");
        for (int what = 0; what < 2; what++) {
            Check.due("a ring without slip", ring.chance(0, 1, what), -1);
            Check.due("one of whom nothing is said", ring.chance(3, 1, what), -1);
        }
        BenchOrder slipping = Check.of(Check.pupils(2) + "slip 1;say a b 0;say b a 0;");
        fraction(slipping, 0, 1, 1, 2);
    }

    private static void chance() {
        Check.edge(15, "what 0: above, 1: below, in lowest terms");
        fraction(Check.with(2, ""), 1, 0, 1, 2);
        fraction(Check.with(10, ""), 8, 9, 1, 2);
        BenchOrder x = Check.with(4, "ab");
        fraction(x, 0, 1, 1, 1);
        fraction(x, 1, 0, 0, 1);
        fraction(x, 0, 3, 2, 3);
        fraction(x, 3, 0, 1, 3);
        fraction(x, 2, 3, 1, 2);
        fraction(Check.with(10, ROW_OF_TEN), 0, 9, 1, 1);
        fraction(Check.with(10, ROW_OF_TEN), 9, 0, 0, 1);
        x.say(3, 0, 1);
        fraction(x, 3, 0, 1, 1);
        fraction(x, 3, 1, 1, 1);
        x.unsay();
        fraction(x, 3, 0, 1, 3);
        Check.edge(15, "12 SAYINGS at most");
        fraction(Check.with(10, "ab ".repeat(12)), 1, 0, 0, 1);
    }

    private static void chanceOfSlips() {
        Check.edge(15, "8 less SLIP if it is not BROKEN, SLIP if it is");
        int[][] plain = {{1, 1}, {7, 8}, {3, 4}, {5, 8}};
        for (int slip = 0; slip <= 3; slip++) {
            String text = "slip " + slip + ";pupil a plain tall 1;pupil b plain tall 1;say b a 1;";
            fraction(Check.of(text), 1, 0, plain[slip][0], plain[slip][1]);
        }
        Check.edge(15, "twice that if the first PUPIL of the SAYING is a helped one");
        int[][] due = {{1, 1}, {3, 4}, {1, 2}, {1, 4}};
        for (int slip = 0; slip <= 3; slip++) {
            String text = "slip " + slip + ";pupil a helped tall 1;pupil b plain tall 1;";
            fraction(Check.of(text + "say a b 0;"), 0, 1, due[slip][0], due[slip][1]);
        }
        BenchOrder second = Check.of("slip 1;pupil a plain tall 1;pupil b helped tall 1;say a b 0;");
        fraction(second, 0, 1, 7, 8);
        Check.edge(15, "as many times as the product, over SAYINGS");
        BenchOrder x = Check.of("slip 1;pupil a plain tall 1;pupil b helped tall 1;say a b 0;say b a 1;");
        // 7 * 2 of 7 * 2 + 1 * 6: the one who is helped slips twice as often.
        fraction(x, 0, 1, 7, 10);
        BenchOrder ten = Check.of(Check.pupils(10) + "slip 1;" + "say i j 0;".repeat(12));
        // 7 to the 12th of that and 1.
        fraction(ten, 8, 9, 13841287201L, 13841287202L);
        fraction(ten, 9, 8, 1, 13841287202L);
        Check.edge(15, "those in which it is so, by all");
        BenchOrder three = Check.of(Check.pupils(3) + "slip 2;say a b 0;");
        // Of six orders three weigh 6, three 2; a is above c in abc, acb, bac: 6 + 6 + 2 of 24.
        fraction(three, 0, 2, 7, 12);
    }

    private static void question(String told, BenchOrder x, int a, int b, int left) {
        Check.due("lesser of " + told, x.next(0), a);
        Check.due("other of " + told, x.next(1), b);
        Check.due("left of " + told, x.next(2), left);
    }

    private static void next() {
        Check.edge(16, "of two PUPILS of whom neither is SURELY above, the least of the greater numbers");
        question("two", Check.with(2, ""), 0, 1, 1);
        question("three", Check.with(3, "ba"), 0, 2, 2);
        question("a row and one", Check.with(4, "ab bc"), 1, 3, 2);
        question("a row of four and one", Check.with(5, "ab bc cd"), 1, 4, 3);
        question("the last two", Check.with(10, "ab bc cd de ef fg gh hi hj"), 8, 9, 1);
        question("ten", Check.with(10, ""), 0, 1, 1814400);
        Check.edge(16, "of equal ones the first (lesser number first, then the other)");
        question("four", Check.with(4, ""), 0, 1, 12);
        question("a above b", Check.with(4, "ab ac ad"), 1, 2, 3);
        question("a above b, c above d", Check.with(4, "ab cd"), 0, 2, 3);
        question("d above all", Check.with(4, "da db dc"), 0, 1, 3);
        question("two with two", Check.with(5, "ab ac bd cd"), 1, 2, 5);
    }

    private static void nextRefused() {
        Check.edge(16, "NONE: others");
        BenchOrder x = Check.with(3, "ab");
        for (int what : new int[] {-1, 3, 4, LEAST, GREATEST}) {
            Check.due("what " + what, x.next(what), -1);
        }
        for (int what = 0; what < 3; what++) {
            Check.edge(16, "NONE: one alone");
            Check.due("nobody", new BenchOrder().next(what), -1);
            Check.due("one", Check.with(1, "").next(what), -1);
            Check.due("two, said", Check.with(2, "ba").next(what), -1);
            Check.due("a row of ten", Check.with(10, ROW_OF_TEN).next(what), -1);
            Check.edge(16, "NONE: no ORDER FITS");
            Check.due("a ring", Check.with(4, "ab bc ca").next(what), -1);
        }
    }

    private static void needed() {
        Check.edge(17, "the fewest SAYINGS more by which one knows the whole ORDER in the worst case");
        int[] due = {0, 0, 1, 3, 5, 7};
        for (int n = 0; n <= 5; n++) {
            Check.due("of " + n, Check.with(n, "").needed(), due[n]);
        }
        Check.due("known", Check.with(5, "ba cb dc ed").needed(), 0);
        Check.due("one to put in four places", Check.with(4, "ab bc").needed(), 2);
        Check.due("one to put in five places", Check.with(5, "ab bc cd").needed(), 3);
        Check.due("3 orders", Check.with(4, "ab cb ac bd ").needed(), 0);
        Check.due("two above two", Check.with(4, "ac ad bc bd").needed(), 2);
        Check.due("6 orders", Check.with(4, "ab cd").needed(), 3);
        Check.due("8 orders that no question halves", Check.with(5, "ba ca ce db de").needed(), 4);
        Check.due("the same by the other master", Check.with(3, "ab1").needed(), 2);
        everyRowOfFive();
        Check.edge(17, "NONE: more than 5 PUPILS");
        Check.due("6", Check.with(6, "").needed(), -1);
        Check.due("6, known", Check.with(6, "ab bc cd de ef").needed(), -1);
        Check.due("10, known", Check.with(10, ROW_OF_TEN).needed(), -1);
        Check.edge(17, "NONE: no ORDER FITS");
        Check.due("two", Check.with(2, "ab ba").needed(), -1);
        Check.due("a ring of three", Check.with(5, "cd de ec").needed(), -1);
        Check.due("a ring of five", Check.with(5, "ab bc cd de ea").needed(), -1);
        BenchOrder x = Check.with(5, "ab ba");
        x.unsay();
        Check.due("an order fits again", x.needed(), 6);
    }

    private static void everyRowOfFive() {
        for (int n = 0; n < 5 * 5 * 5 * 5 * 5; n++) {
            int[] row = {n % 5, n / 5 % 5, n / 25 % 5, n / 125 % 5, n / 625};
            int seen = 0;
            for (int p : row) {
                seen |= 1 << p;
            }
            if (seen == 31) {
                BenchOrder x = Check.with(5, "");
                for (int i = 1; i < 5; i++) {
                    x.say(row[i - 1], row[i], i % 2);
                }
                Check.due("known", x.needed(), 0);
                x.unsay();
                Check.due("the last of four places is known", x.needed(), 3);
            }
        }
    }

    private static void newOnePlaces() {
        Check.edge(18, "so many that 2 to their power is no less than the places where he may stand");
        String row = "";
        int[] due = {0, 1, 2, 2, 3, 3, 3, 3, 4, 4};
        for (int n = 1; n <= 10; n++) {
            Check.due(n + " places", Check.with(n, row).newOne(n - 1), due[n - 1]);
            row += n < 2 ? "" : " " + (char) ('a' + n - 2) + (char) ('a' + n - 1);
        }
        BenchOrder x = Check.with(6, "bc cd de ef");
        Check.due("six places", x.newOne(0), 3);
        Check.say(x, "ab");
        Check.due("one place ahead of all", x.newOne(0), 0);
        x.unsay();
        Check.say(x, "fa1");
        Check.due("one place behind all", x.newOne(0), 0);
        x.unsay();
        Check.say(x, "af");
        Check.due("five places", x.newOne(0), 3);
        Check.say(x, "ba");
        Check.due("four places", x.newOne(0), 2);
        Check.say(x, "ca");
        Check.due("three places", x.newOne(0), 2);
        Check.say(x, "ae");
        Check.due("two places", x.newOne(0), 1);
        Check.say(x, "ad");
        Check.due("one place", x.newOne(0), 0);
        Check.edge(18, "NONE: he can stand nowhere");
        Check.say(x, "ac");
        Check.due("c above and below him", x.newOne(0), -1);
        x.unsay();
        Check.say(x, "da");
        Check.due("d above and below him", x.newOne(0), -1);
        Check.due("b above and below him", Check.with(2, "ab ba").newOne(0), -1);
        Check.due("above the first, below the second", Check.with(3, "bc ca ab").newOne(0), -1);
    }

    private static void newOneRefused() {
        Check.edge(18, "NONE: others");
        BenchOrder x = Check.with(3, "ab bc");
        for (int p : NO_PUPIL) {
            Check.due("pupil " + p, x.newOne(p), -1);
        }
        Check.edge(18, "NONE: the others' ORDER is not known");
        Check.due("two others, nothing said", Check.with(3, "").newOne(2), -1);
        Check.due("two others, said", Check.with(3, "ba").newOne(2), 2);
        Check.due("known by him alone", x.newOne(1), -1);
        Check.due("in a ring", Check.with(3, "ab ba").newOne(2), -1);
        Check.due("in a ring, but for him", Check.with(3, "ab ba bc").newOne(0), -1);
        Check.due("one of two orders", Check.with(4, "ab ac bd cd").newOne(0), -1);
        Check.edge(18, "one of theirs FITS by SAYINGS that do not name him");
        Check.due("he stands in the row", Check.with(3, "ab bc ac").newOne(1), 0);
        Check.due("nobody else", Check.with(1, "").newOne(0), 0);
        Check.due("one else", Check.with(2, "").newOne(1), 1);
        Check.due("one else, said", Check.with(2, "ab").newOne(0), 0);
    }
}
