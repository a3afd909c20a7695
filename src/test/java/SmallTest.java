/** Promises 8 to 18 for every way to speak of each two of two, three and four pupils: the answers are the plain model's. */
final class SmallTest {
    private final BenchOrder x = new BenchOrder();
    private final Naive y = new Naive();
    private final int pupils;
    private final String told;

    private SmallTest(int pupils, String told) {
        this.pupils = pupils;
        this.told = pupils + " pupils" + told + ": ";
        String text = Check.pupils(pupils) + "slip 1;";
        Check.put(x, text);
        for (int i = 0; i < text.length(); i += 24) {
            y.feed(Check.eight(text, i), Check.eight(text, i + 8), Check.eight(text, i + 16));
        }
        Check.due("school", x.school(), y.school());
    }

    public static void main(String[] args) {
        for (int pupils = 2; pupils <= 4; pupils++) {
            // Each two: nothing, one way round, the other, both by two masters.
            for (int ways = 0; ways < 1 << pupils * (pupils - 1); ways++) {
                SmallTest test = new SmallTest(pupils, ", ways " + ways);
                test.sayBy(ways);
                test.compareAll();
            }
        }
        // Of five all that do not go in a ring: the others are these with other numbers.
        for (int ways = 0; ways < 1 << 10; ways++) {
            SmallTest test = new SmallTest(5, ", pairs " + ways);
            test.sayDown(ways);
            Check.due(test.told + "needed", test.x.needed(), test.y.needed());
        }
        Check.end();
    }

    private void say(int better, int other, int master) {
        Check.due(told + "say", x.say(better, other, master), y.say(better, other, master));
    }

    private void sayBy(int ways) {
        int left = ways;
        for (int a = 0; a < pupils; a++) {
            for (int b = a + 1; b < pupils; b++) {
                if ((left & 1) != 0) {
                    say(a, b, 0);
                }
                if ((left & 2) != 0) {
                    say(b, a, 1);
                }
                left >>= 2;
            }
        }
    }

    private void sayDown(int pairs) {
        int left = pairs;
        for (int a = 0; a < pupils; a++) {
            for (int b = a + 1; b < pupils; b++) {
                if ((left & 1) != 0) {
                    say(a, b, a % 2);
                }
                left >>= 1;
            }
        }
    }

    private void compareAll() {
        Check.due(told + "orders", x.orders(), y.orders());
        Check.due(told + "helped", x.helped(), y.helped());
        Check.due(told + "unlike", x.unlike(), y.unlike());
        Check.due(told + "needed", x.needed(), y.needed());
        for (int i = 0; i < 3; i++) {
            Check.due(told + "dropped", x.dropped(i - 1), y.dropped(i - 1));
            Check.due(told + "next", x.next(i), y.next(i));
        }
        for (int a = 0; a < pupils; a++) {
            Check.due(told + "least of " + a, x.span(a, 0), y.span(a, 0));
            Check.due(told + "greatest of " + a, x.span(a, 1), y.span(a, 1));
            Check.due(told + "row " + a, x.row(a), y.row(a));
            Check.due(told + "newOne " + a, x.newOne(a), y.newOne(a));
            for (int b = 0; b < pupils; b++) {
                String two = told + a + " and " + b + ", ";
                Check.due(two + "sure", x.sure(a, b), y.sure(a, b));
                Check.due(two + "above", x.chance(a, b, 0), y.chance(a, b, 0));
                Check.due(two + "below", x.chance(a, b, 1), y.chance(a, b, 1));
            }
        }
    }
}
