import java.lang.management.ManagementFactory;

/**
 * All calls of a run live in one room of some 600,000 objects and 7.3 million fields and elements: what a full life of
 * an object makes is counted here, and stays under four bytes for each of these fields.
 */
public final class RoomTest {
    private static final int CALLS = 512;
    private static final long ROOM = 29_000_000L;

    public static void main(String[] args) {
        com.sun.management.ThreadMXBean bean =
                (com.sun.management.ThreadMXBean) ManagementFactory.getThreadMXBean();
        long id = Thread.currentThread().getId();
        life();
        long before = bean.getThreadAllocatedBytes(id);
        life();
        long made = bean.getThreadAllocatedBytes(id) - before;
        Check.due("bytes made in a life (" + made + ") are few", made <= ROOM ? 1 : 0, 1);
        Check.finish("RoomTest");
    }

    /** 512 calls, the dearest ones among them, on a fabric that is full of packets. */
    private static void life() {
        Fabricsim x = new Fabricsim();
        int flows = 0;
        for (int call = 0; call < CALLS; call++) {
            if (flows < 24) {
                flows++;
                x.addFlow(call % 16, (call + 5) % 16, 100, call % 5);
            } else if (call % 8 == 0) {
                x.leastTicks();
            } else if (call % 101 == 100) {
                flows = 0;
                x.reset(call % 6, 1 + call % 50, 16);
            } else {
                x.pass(200);
            }
        }
    }
}
