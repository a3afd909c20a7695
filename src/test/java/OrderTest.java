/** Promises 8 to 18: what follows from sayings, what breaks them, chances, what to ask. */
final class OrderTest {
    private OrderTest() {
    }

    public static void main(String[] args) {
        orders();
        sureAndSpan();
        dropped();
        row();
        helped();
        unlike();
        chance();
        chanceOfMany();
        next();
        needed();
        newOne();
        studiesAreForgotten();
        Check.end();
    }

    private static void orders() {
        int all = 1;
        for (int n = 1; n <= 10; n++) {
            all *= n;
            Check.due("all orders of " + n, Check.with(n, "").orders(), all);
        }
        Check.due("half", Check.with(10, "ab").orders(), 1814400);
        Check.due("the same twice", Check.with(10, "ab ab1").orders(), 1814400);
        Check.due("a row of ten", Check.with(10, "ab bc cd de ef fg gh hi ij").orders(), 1);
        Check.due("a ring of ten", Check.with(10, "ab bc cd de ef fg gh hi ij ja").orders(), 0);
        Check.due("both ways", Check.with(2, "ab ba1").orders(), 0);
        Check.due("two rows of five", Check.with(10, "ab bc cd de fg gh hi ij").orders(), 252);
        Check.due("a fan", Check.with(4, "ab ac ad").orders(), 6);
    }

    private static void sureAndSpan() {
        BenchOrder x = Check.with(5, "ab bc de");
        Check.due("sure", x.sure(0, 2), 1);
        Check.due("sure", x.sure(2, 0), 2);
        Check.due("sure", x.sure(0, 3), 0);
        Check.due("sure", x.sure(4, 3), 2);
        Check.due("the same", x.sure(1, 1), -1);
        Check.due("none such", x.sure(5, 1), -1);
        Check.due("none such", x.sure(1, -1), -1);
        int[][] spans = {{0, 2}, {1, 3}, {2, 4}, {0, 3}, {1, 4}};
        for (int p = 0; p < 5; p++) {
            Check.due("least", x.span(p, 0), spans[p][0]);
            Check.due("greatest", x.span(p, 1), spans[p][1]);
        }
        Check.due("no such what", x.span(0, 2), -1);
        Check.due("no such what", x.span(0, -1), -1);
        Check.due("none such", x.span(5, 0), -1);
        Check.due("none such", x.span(-1, 0), -1);
        Check.say(x, "ca1");
        Check.due("no order fits", x.sure(3, 4), -1);
        Check.due("no order fits", x.span(3, 0), -1);
        Check.due("alone", Check.with(1, "").span(0, 1), 0);
    }

    private static void dropped() {
        BenchOrder x = Check.with(4, "ab ba1 ba1 bc cd db1");
        Check.due("both", x.dropped(-1), 2);
        Check.due("master 0", x.dropped(0), 0);
        Check.due("master 1", x.dropped(1), 0);
        Check.due("both again", x.dropped(-1), 2);
        Check.due("others", x.dropped(2), -2);
        Check.due("others", x.dropped(-2), -2);
        Check.say(x, "ba0 ca1 ac1");
        Check.due("master 0", x.dropped(0), 1);
        Check.due("master 1", x.dropped(1), 1);
        BenchOrder many = Check.with(2, "");
        for (int i = 0; i < 40; i++) {
            many.say(i % 2, 1 - i % 2, 0);
        }
        Check.due("twenty of forty", many.dropped(-1), 20);
        Check.due("none by the other", many.dropped(1), 0);
        BenchOrder one = Check.of(Check.pupils(10));
        for (int i = 0; i < 40; i++) {
            one.say(9, 8, 0);
        }
        Check.due("forty alike", one.dropped(-1), 0);
        Check.due("he is ahead", one.row(8), 9);
    }

    private static void row() {
        BenchOrder x = Check.with(3, "");
        for (int i = 0; i < 3; i++) {
            Check.due("by numbers", x.row(i), i);
        }
        Check.due("none such", x.row(3), -1);
        Check.due("none such", x.row(-1), -1);
        Check.say(x, "cb");
        int[] due = {0, 2, 1};
        for (int i = 0; i < 3; i++) {
            Check.due("row", x.row(i), due[i]);
        }
        Check.say(x, "ba ba ac");
        // c, b, a breaks one as well, but b, a, c comes first.
        int[] then = {1, 0, 2};
        Check.due("one is dropped", x.dropped(-1), 1);
        for (int i = 0; i < 3; i++) {
            Check.due("row of a ring", x.row(i), then[i]);
        }
        Check.due("a master's is none of it", x.dropped(1), 0);
        Check.due("row", x.row(0), 1);
    }

    private static void helped() {
        Check.due("an order fits", Check.with(3, "ab bc").helped(), 0);
        Check.due("a ring", Check.with(4, "ab bc ca ad").helped(), 7);
        Check.due("two rings by one", Check.with(5, "ab bc ca ad de ea").helped(), 1);
        Check.due("two rings by none", Check.with(4, "ab ba cd dc").helped(), 0);
        Check.due("two", Check.with(3, "bc cb1").helped(), 6);
    }

    private static void unlike() {
        Check.due("none", Check.with(3, "ab ab1 bc cb").unlike(), 0);
        Check.due("one", Check.with(3, "ab ba1").unlike(), 1);
        Check.due("the other way round", Check.with(3, "ba ab1").unlike(), 1);
        Check.due("once a pair", Check.with(3, "ba ab1 ba ab1 ba1 ab").unlike(), 1);
        Check.due("two", Check.with(3, "ba ab1 ca1 ac").unlike(), 2);
        Check.due("by one master", Check.with(3, "ba1 ab1").unlike(), 0);
    }

    private static void fraction(BenchOrder x, int a, int b, long above, long below) {
        Check.due("above " + a + " " + b, x.chance(a, b, 0), above);
        Check.due("below " + a + " " + b, x.chance(a, b, 1), below);
    }

    private static void chance() {
        BenchOrder x = Check.with(3, "ab");
        fraction(x, 0, 1, 1, 1);
        fraction(x, 1, 0, 0, 1);
        fraction(x, 0, 2, 2, 3);
        fraction(x, 2, 0, 1, 3);
        Check.due("the same", x.chance(1, 1, 0), -1);
        Check.due("none such", x.chance(1, 3, 0), -1);
        Check.due("none such", x.chance(-1, 1, 0), -1);
        Check.due("no such what", x.chance(0, 1, 2), -1);
        Check.due("no such what", x.chance(0, 1, -1), -1);
        Check.say(x, "ba1");
        Check.due("no order counts", x.chance(0, 1, 0), -1);
        Check.due("no order counts", x.chance(0, 2, 1), -1);
        BenchOrder y = Check.of("pupil a helped tall 1;pupil b plain tall 1;slip 3;say a b 0;");
        fraction(y, 0, 1, 1, 4);
        Check.say(y, "ba");
        fraction(y, 0, 1, 1, 6);
        BenchOrder z = Check.of("pupil a plain tall 1;pupil b helped tall 1;slip 1;say a b 0;");
        fraction(z, 0, 1, 7, 8);
    }

    private static void chanceOfMany() {
        BenchOrder x = Check.of(Check.pupils(10) + "slip 1;");
        for (int i = 0; i < 12; i++) {
            x.say(0, 1, 0);
        }
        fraction(x, 0, 1, 13841287201L, 13841287202L);
        fraction(x, 2, 3, 1, 2);
        x.say(2, 3, 0);
        Check.due("13 are too many", x.chance(0, 1, 0), -1);
        x.unsay();
        fraction(x, 1, 0, 1, 13841287202L);
    }

    private static void question(BenchOrder x, int a, int b, int left) {
        Check.due("lesser", x.next(0), a);
        Check.due("other", x.next(1), b);
        Check.due("left", x.next(2), left);
    }

    private static void next() {
        question(Check.with(2, ""), 0, 1, 1);
        question(Check.with(10, ""), 0, 1, 1814400);
        question(Check.with(4, "ab ac"), 1, 2, 4);
        question(Check.with(5, "ab bc cd"), 1, 4, 3);
        BenchOrder x = Check.with(3, "ab");
        question(x, 0, 2, 2);
        Check.due("others", x.next(3), -1);
        Check.due("others", x.next(-1), -1);
        Check.say(x, "bc");
        Check.due("one alone", x.next(0), -1);
        Check.say(x, "ca");
        Check.due("no order fits", x.next(2), -1);
        Check.due("alone", Check.with(1, "").next(0), -1);
    }

    private static void needed() {
        int[] due = {0, 1, 3, 5, 7};
        for (int n = 1; n <= 5; n++) {
            Check.due("needed by " + n, Check.with(n, "").needed(), due[n - 1]);
        }
        Check.due("more than five", Check.with(6, "ab bc cd de ef").needed(), -1);
        Check.due("known", Check.with(5, "ab bc cd de").needed(), 0);
        Check.due("one of five", Check.with(5, "ab").needed(), 6);
        Check.due("two of five", Check.with(5, "ab cd").needed(), 5);
        Check.due("one into four", Check.with(5, "ab bc cd").needed(), 3);
        Check.due("a fan", Check.with(5, "ab ac ad ae").needed(), 5);
        // The one kind of case where halving would need fewer: 8 orders, but no question leaves 4 and 4.
        Check.due("8 orders", Check.with(5, "ba ca ce db de").orders(), 8);
        Check.due("more than 3 for 8", Check.with(5, "ba ca ce db de").needed(), 4);
        Check.due("no order fits", Check.with(3, "ab bc ca").needed(), -1);
    }

    private static void newOne() {
        BenchOrder x = Check.with(5, "ab bc cd");
        Check.due("five places", x.newOne(4), 3);
        Check.due("the others are not known", x.newOne(0), -1);
        Check.say(x, "ae");
        Check.due("four places", x.newOne(4), 2);
        Check.say(x, "be ed");
        Check.due("two places", x.newOne(4), 1);
        Check.say(x, "ec");
        Check.due("one place", x.newOne(4), 0);
        Check.say(x, "ea");
        Check.due("nowhere", x.newOne(4), -1);
        Check.due("none such", x.newOne(5), -1);
        Check.due("none such", x.newOne(-1), -1);
        Check.due("alone", Check.with(1, "").newOne(0), 0);
        Check.due("two", Check.with(2, "").newOne(0), 1);
        BenchOrder ring = Check.with(4, "ab bc ca");
        Check.due("the others go in a ring", ring.newOne(3), -1);
        Check.due("without one of the ring", ring.newOne(0), -1);
        BenchOrder ten = Check.with(10, "ab bc cd de ef fg gh hi");
        Check.due("ten places", ten.newOne(9), 4);
        Check.say(ten, "ja");
        Check.due("at the head", ten.newOne(9), 0);
    }

    /** What was worked out before a saying must not be told behind it. */
    private static void studiesAreForgotten() {
        BenchOrder x = Check.of(Check.pupils(4) + "slip 1;wish above*5+below*3;");
        x.mark(0, false);
        for (int round = 0; round < 3; round++) {
            Check.due("orders", x.orders(), 24);
            Check.due("sure", x.sure(3, 2), 0);
            Check.due("chance", x.chance(3, 2, 1), 2);
            Check.due("row", x.row(0), 0);
            Check.due("next", x.next(2), 12);
            Check.due("wish", x.wishes(2, 3), 0);
            Check.due("rests", x.rests(), 3);
            Check.say(x, "dc ca");
            Check.due("orders", x.orders(), 4);
            Check.due("sure", x.sure(3, 2), 1);
            Check.due("chance", x.chance(3, 2, 1) > 2, true);
            Check.due("row", x.row(0), 1);
            Check.due("next", x.next(2), 2);
            Check.due("wish", x.wishes(2, 3), 5);
            Check.due("rests", x.rests() != 3, true);
            if (round == 0) {
                x.unsay();
                x.unsay();
            } else {
                x.mark(0, true);
            }
        }
    }
}
