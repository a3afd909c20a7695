import com.sun.management.ThreadMXBean;
import java.lang.management.ManagementFactory;

/** All calls of one run live in one room: an object is small, and its calls make next to nothing. */
final class RoomTest {
    private static final ThreadMXBean THREADS = (ThreadMXBean) ManagementFactory.getThreadMXBean();

    private RoomTest() {
    }

    public static void main(String[] args) {
        oneRun();
        long start = taken();
        BenchOrder x = new BenchOrder();
        long made = taken() - start;
        Check.due("bytes of a new object: " + made, made < 80_000, true);
        Check.read(x, Check.pupils(6) + "bench row 1 worth 1;");
        long before = taken();
        work(x);
        long used = taken() - before;
        Check.due("bytes of calls that read no school: " + used, used < 1_000, true);
        long reading = taken();
        for (int i = 0; i < 100; i++) {
            x.school();
        }
        long read = (taken() - reading) / 100;
        Check.due("bytes of a school: " + read, read < 1_000, true);
        System.out.println(made + " bytes an object, " + used + " by its calls, " + read + " by a school");
        Check.end();
    }

    private static long taken() {
        return THREADS.getThreadAllocatedBytes(Thread.currentThread().getId());
    }

    private static void oneRun() {
        for (int i = 0; i < 3; i++) {
            work(Check.of(Check.pupils(5) + "say a b 0;"));
        }
        taken();
    }

    private static void work(BenchOrder x) {
        for (int i = 0; i < 20; i++) {
            x.say(i % 5, (i + 1) % 5, 0);
            x.orders();
            x.sure(0, 1);
            x.span(0, 1);
            x.dropped(0);
            x.row(1);
            x.helped();
            x.unlike();
            x.chance(0, 1, 0);
            x.next(0);
            x.needed();
            x.newOne(0);
            x.sit(0, 0);
            x.plan(0, 0);
            x.changes();
            x.wishes(0, 1);
            x.rests();
            x.rest(0, 0);
            x.season(i, 0);
            x.season(i, 1);
            x.mark(0, i % 2 == 0);
            x.count(0);
        }
    }
}
