import java.lang.management.ManagementFactory;

/** What the dearest runs of 512 calls make, against the room of some 600,000 objects and 7.3 million elements. */
public final class RoomTest {
    // An element takes at least one byte and an object at least sixteen: within so many bytes both limits hold.
    private static final long ROOM_BYTES = 7_300_000;
    private static final int CALLS = 512;

    private static final com.sun.management.ThreadMXBean THREADS =
            (com.sun.management.ThreadMXBean) ManagementFactory.getThreadMXBean();

    private RoomTest() {
    }

    public static void main(String[] args) {
        made("typing and clearing", "", (x, i) -> i % 61 == 60 ? x.clearText() : x.type('a'));
        made("perform() of 2000 steps", "2(5(5(5(8a))))", (x, i) -> x.perform());
        made("perform() of too many steps", "9(9(9(9a)))", (x, i) -> x.perform());
        made("perform() of a fault", "(".repeat(60), (x, i) -> x.perform());
        made("draw(63, 200)", "", (x, i) -> x.draw(63, 200));
        made("go() and finish()", "", (x, i) -> i % 7 == 6 ? x.finish() : x.go(i % 7));
        made("build()", "", (x, i) -> x.build(i % 4));
        made("keep(), restore() and undo()", "", (x, i) -> i % 3 == 0 ? x.keep() : i % 3 == 1 ? x.restore() : x.undo());
        made("stepsToFinish()", "", (x, i) -> i < 6 ? x.step(i) : x.stepsToFinish());
        for (int kind = 0; kind < 4; kind++) {
            int k = kind;
            made("orders(), kind " + kind, "", (x, i) -> i == 0 ? x.build(k) : x.orders(i % 6, (i + 1) % 6, i % 3));
        }
        Check.end();
    }

    private interface Calls {
        int call(NudgeLocks x, int i);
    }

    /** The second run is counted: the first one loads what the machine needs for itself. */
    private static void made(String what, String text, Calls calls) {
        run(text, calls);
        long start = THREADS.getCurrentThreadAllocatedBytes();
        run(text, calls);
        long bytes = THREADS.getCurrentThreadAllocatedBytes() - start;
        Check.holds(what + " makes " + bytes + " bytes", bytes < ROOM_BYTES);
    }

    private static void run(String text, Calls calls) {
        NudgeLocks x = new NudgeLocks();
        for (int i = 0; i < text.length(); i++) {
            x.type(text.charAt(i));
        }
        for (int i = 0; i < CALLS - text.length(); i++) {
            calls.call(x, i);
        }
    }
}
