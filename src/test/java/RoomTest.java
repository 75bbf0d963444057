import com.sun.management.ThreadMXBean;
import java.lang.management.ManagementFactory;

/** All calls of a run share one room, so as many as may be of the dearest may make only little. */
public final class RoomTest {
    /** With those that make the machine, no more than an object is used for. */
    private static final int CALLS = 490;
    /** 7.3 million elements are 29 million bytes and more; a tenth of that is asked here. */
    private static final long MOST_BYTES = 3_000_000;

    private static final ThreadMXBean BEAN =
        (ThreadMXBean) ManagementFactory.getThreadMXBean();

    private static long bytes() {
        return BEAN.getThreadAllocatedBytes(Thread.currentThread().getId());
    }

    /** The longest reset that 12 states can need: one cycle, and one arrow that joins two. */
    private static MachineTables longestReset() {
        MachineTables x = new MachineTables();
        x.machine(12, 2);
        for (int s = 0; s < 12; s++) {
            x.arrow(0, s, 0, (s + 1) % 12, 0);
        }
        x.arrow(0, 11, 1, 0, 0);
        return x;
    }

    public static void main(String[] args) {
        MachineTables x = longestReset();
        Due.is("the longest reset", 121, x.reset(0));
        long before = bytes();
        for (int i = 0; i < CALLS; i++) {
            x.reset(0);
        }
        long resets = bytes() - before;
        Due.is("room of all resets, " + resets + " bytes", true, resets < MOST_BYTES);

        before = bytes();
        MachineTables y = new MachineTables();
        for (int i = 0; i < CALLS / 5; i++) {
            y.clear();
            y.machine(40, 4);
            y.least(0);
            y.chain(0, 0);
            y.home(0);
        }
        long machines = bytes() - before;
        Due.is("room of machines, " + machines + " bytes", true, machines < MOST_BYTES);
        Due.end();
    }
}
