import java.lang.management.ManagementFactory;

/** What an object's calls make: rows are made once and used again, so the dearest runs stay far below the room. */
public final class RoomTest {
    // A small part of 600,000 objects and 7.3 million elements, at 8 bytes each.
    private static final long OBJECT_BYTES = 60_000;
    private static final long RUN_BYTES = 300_000;

    private static final com.sun.management.ThreadMXBean THREADS =
            (com.sun.management.ThreadMXBean) ManagementFactory.getThreadMXBean();

    private RoomTest() {
    }

    public static void main(String[] args) {
        run();
        long start = bytes();
        NudgeLocks x = new NudgeLocks();
        long made = bytes() - start;
        Check.holds("a new object takes " + made + " bytes", made < OBJECT_BYTES && x.total(0) == 0);
        start = bytes();
        run();
        made = bytes() - start;
        Check.holds("a run of dear calls takes " + made + " bytes", made < RUN_BYTES);
        Check.end();
    }

    private static long bytes() {
        return THREADS.getCurrentThreadAllocatedBytes();
    }

    private static void run() {
        NudgeLocks x = new NudgeLocks();
        x.type('9');
        x.type('(');
        x.type('9');
        x.type('f');
        x.type(')');
        for (int i = 0; i < 60; i++) {
            x.build(i % 4);
            x.draw(63, 200);
            x.stepsToFinish();
            x.orders(i % 6, (i + 1) % 6, i % 3);
            x.perform();
            x.finish();
            x.keep();
            x.restore();
        }
    }
}
