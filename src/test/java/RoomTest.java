import com.sun.management.ThreadMXBean;
import java.lang.management.ManagementFactory;

/** A new object is small, and its dearest calls make nothing that stays in the room. */
public final class RoomTest {
    private static final int CALLS = 360;

    public static void main(String[] args) {
        Check check = new Check();
        dearest(new LeftOut());
        ThreadMXBean threads = (ThreadMXBean) ManagementFactory.getThreadMXBean();
        long thread = Thread.currentThread().getId();
        long start = threads.getThreadAllocatedBytes(thread);
        LeftOut x = new LeftOut();
        long made = threads.getThreadAllocatedBytes(thread);
        check.holds("a new object takes " + (made - start) + " bytes", made - start < 40_000);
        fill(x);
        long before = threads.getThreadAllocatedBytes(thread);
        dearest(x);
        long after = threads.getThreadAllocatedBytes(thread);
        check.holds(CALLS + " calls take " + (after - before) + " bytes", after - before < 20_000);
        check.end("RoomTest");
    }

    private static void fill(LeftOut x) {
        for (int gap = 0; gap < 6; gap++) {
            x.gap(gap, 5);
        }
        String[] rules = {"0=1?0=0", "0=2?0=1", "0=3?0=2", "0=4?0=3", "1=1?1=0", "1=2?1=1", "1=3?1=2", "2=1?2=0", "2=2?2=1"};
        for (String rule : rules) {
            Check.rule(x, "L" + rule);
        }
        for (int i = 0; i < 8; i++) {
            Check.bargain(x, 0, 1, 0, "");
            for (int gap = 0; gap < 6; gap++) {
                x.think(i, 0, gap, 1);
                x.think(i, 1, gap, 1);
            }
        }
        x.keep(0);
    }

    private static void dearest(LeftOut x) {
        for (int i = 0; i < CALLS; i += 4) {
            x.words(i % 8, 15);
            x.best(i % 4, i % 6);
            x.since(i % 4, 0);
            x.step(i % 8, i % 4);
        }
    }
}
