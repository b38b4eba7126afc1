import com.sun.management.ThreadMXBean;
import java.lang.management.ManagementFactory;

/** All calls of a run live in one room: an object is small, and its calls make nothing. */
public final class RoomTest {
    private static final int CALLS = 512;
    /** 7.3 million elements for 512 new objects, at four bytes each. */
    private static final long MOST_BYTES_OF_AN_OBJECT = 7_300_000L / CALLS * 4;
    /** What the machine itself may make meanwhile. */
    private static final long SLACK = 100_000;

    private static final ThreadMXBean THREADS = (ThreadMXBean) ManagementFactory.getThreadMXBean();

    public static void main(String[] args) {
        Check check = new Check("the room");
        BayStowage x = fullest();
        use(x);
        long before = allocated();
        use(x);
        long made = allocated() - before;
        check.isTrue("calls make nothing: " + made, made < SLACK);
        before = allocated();
        for (int i = 0; i < CALLS; i++) {
            fullest();
        }
        long each = (allocated() - before) / CALLS;
        check.isTrue("an object is small: " + each, each < MOST_BYTES_OF_AN_OBJECT);
        check.end();
    }

    private static long allocated() {
        return THREADS.getThreadAllocatedBytes(Thread.currentThread().getId());
    }

    private static BayStowage fullest() {
        BayStowage x = new BayStowage();
        x.bay(3, 3, 4, 200, 2000, 40);
        for (int box = 0; box < 4; box++) {
            x.box(0, 3 - box / 3, 7 + 3 * box, 0);
        }
        x.box(1, 3, 5, 0);
        return x;
    }

    private static void use(BayStowage x) {
        for (int round = 0; round < CALLS / 8; round++) {
            x.plug(0, true);
            int last = x.plan() < 0 ? 0 : x.moves();
            x.replay(last);
            x.moment(5);
            x.slot(0, 0);
            x.verify();
            x.report(1, 2);
        }
    }
}
