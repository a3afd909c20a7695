/** Promise 26: seasons. What is due comes from the plain model, or from the document's words alone. */
final class SeasonTest {
    private SeasonTest() {
    }

    public static void main(String[] args) {
        refused();
        known();
        hundredDays();
        lastForty();
        nothingChanges();
        manySeeds();
        Check.end();
    }

    private static void refused() {
        BenchOrder x = Check.of(Check.pupils(3));
        Check.due("seed", x.season(-1, 0), -1);
        Check.due("seed", x.season(10000, 1), -1);
        Check.due("what", x.season(1, 2), -1);
        Check.due("what", x.season(1, -1), -1);
        Check.due("a seed that may be", x.season(9999, 1), 0);
        Check.due("one pupil", Check.of(Check.pupils(1)).season(1, 1), -1);
        Check.due("nobody", new BenchOrder().season(1, 0), -1);
    }

    private static void known() {
        Check.due("known at the beginning", Check.of(Check.pupils(2) + "say b a 0;").season(7, 0), 0);
        Check.due("behind a day", Check.of(Check.pupils(2)).season(7, 0), 1);
        Check.due("a ring of two lasts until its first goes",
                Check.of(Check.pupils(2) + "say b a 0;say a b 1;").season(7, 0), 39);
        Check.due("and one is dropped", Check.of(Check.pupils(2) + "say b a 0;say a b 1;").season(7, 1), 1);
    }

    private static void hundredDays() {
        BenchOrder x = Check.of(Check.pupils(4) + "slip 1;");
        Naive y = new Naive();
        y.names.addAll(java.util.List.of("a", "b", "c", "d"));
        y.slip = 1;
        int[] seeds = {3656, 3100, 1413};
        int[] days = {99, 100, -1};
        for (int i = 0; i < 3; i++) {
            Check.due("days of " + seeds[i], x.season(seeds[i], 0), days[i]);
            Check.due("the model's days of " + seeds[i], y.season(seeds[i], 0), days[i]);
        }
    }

    /** a b and b a: the row is a, b; each day says a b; the b a goes as the 41st comes. */
    private static void lastForty() {
        String text = Check.pupils(2) + "say b a 0;" + "say a b 0;".repeat(39);
        Check.due("the oldest goes on the first day", Check.of(text).season(3, 0), 1);
        Check.due("nothing is dropped then", Check.of(text).season(3, 1), 0);
        String last = Check.pupils(2) + "say a b 0;".repeat(39) + "say b a 0;";
        Check.due("the last goes on the fortieth", Check.of(last).season(3, 0), 40);
        Check.due("it is there behind twenty", Check.of(last).season(3, 1), 1);
    }

    private static void nothingChanges() {
        BenchOrder x = Check.of(Check.pupils(4) + "slip 3;say d a 0;");
        int row = x.row(0);
        int dropped = x.dropped(-1);
        x.season(12, 1);
        x.season(12, 0);
        Check.due("sayings", x.count(2), 1);
        Check.due("orders", x.orders(), 12);
        Check.due("row", x.row(0), row);
        Check.due("dropped", x.dropped(-1), dropped);
        Check.due("the same again", x.season(12, 1), x.season(12, 1));
    }

    private static void manySeeds() {
        for (int pupils = 2; pupils <= 6; pupils++) {
            for (int slip = 0; slip <= 3; slip++) {
                String text = Check.pupils(pupils) + "slip " + slip + ";say b a 0;";
                BenchOrder x = Check.of(text);
                Naive y = new Naive();
                for (int i = 0; i < text.length(); i += 24) {
                    y.feed(Check.eight(text, i), Check.eight(text, i + 8), Check.eight(text, i + 16));
                }
                y.school();
                for (int seed = slip; seed < 10000; seed += pupils < 6 ? 1999 : 4999) {
                    Check.due(text + seed, x.season(seed, 0), y.season(seed, 0));
                    Check.due(text + seed, x.season(seed, 1), y.season(seed, 1));
                }
            }
        }
    }
}
