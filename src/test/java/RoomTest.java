import java.lang.management.ManagementFactory;

/** All parts are made in the constructor: the dearest calls make nothing more. */
public final class RoomTest {
    private static final Check CHECK = new Check("RoomTest");
    private static final int SLACK = 50_000;

    public static void main(String[] args) {
        flood(new LeasePair(32, 10, 0));
        LeasePair pair = new LeasePair(32, 10, 0);
        long before = allocated();
        flood(pair);
        long made = allocated() - before;
        CHECK.due("bytes made by 512 calls, " + made + ", are few", made < SLACK, true);
        CHECK.end();
    }

    /** Each HELLO makes 32 UPDATEs, and each of them an ACK. */
    private static void flood(LeasePair pair) {
        for (int i = 0; i < 128; i++) {
            pair.kill(1);
            pair.start(1);
            pair.carry(0);
            pair.carryAll();
        }
    }

    private static long allocated() {
        com.sun.management.ThreadMXBean bean = (com.sun.management.ThreadMXBean) ManagementFactory.getThreadMXBean();
        return bean.getThreadAllocatedBytes(Thread.currentThread().getId());
    }
}
