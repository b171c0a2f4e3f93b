/** Promises 18 to 21: what would be; nothing changes. */
public final class WouldBeTest {
    private WouldBeTest() {
    }

    public static void main(String[] args) {
        ranges();
        looksAndTouches();
        agreesWithSteps();
        stepsToFinish();
        ordersOfTickets();
        ordersOfGrabbing();
        ordersOfNudges();
        ordersOfWatching();
        ordersChangeNothing();
        Check.end();
    }

    private static NudgeLocks lock(int kind) {
        NudgeLocks x = new NudgeLocks();
        x.build(kind);
        return x;
    }

    private static void dueOrders(NudgeLocks x, int one, int other, int... wants) {
        for (int what = 0; what < 3; what++) {
            String name = "orders(" + one + ", " + other + ", " + what + "), kind " + x.total(0);
            Check.due(name, x.orders(one, other, what), wants[what]);
            Check.due(name + ", the other way round", x.orders(other, one, what), wants[what]);
        }
    }

    private static void ranges() {
        NudgeLocks x = new NudgeLocks();
        int[] far = {Integer.MIN_VALUE, -6, -1, 6, 7, Integer.MAX_VALUE};
        for (int n : far) {
            Check.due("wouldLook(" + n + ")", x.wouldLook(n), -1);
            Check.due("wouldTouch(" + n + ")", x.wouldTouch(n), -1);
            Check.due("orders(" + n + ", 0, 0)", x.orders(n, 0, 0), -1);
            Check.due("orders(0, " + n + ", 0)", x.orders(0, n, 0), -1);
            Check.due("orders(" + n + ", " + n + ", 9)", x.orders(n, n, 9), -1);
            Check.due("orders(0, 1, " + n + ")", x.orders(0, 1, n), -2);
        }
        Check.due("orders(3, 3, 0)", x.orders(3, 3, 0), -2);
        Check.due("orders(3, 3, 3)", x.orders(3, 3, 3), -2);
        Check.due("orders(3, 4, 3)", x.orders(3, 4, 3), -2);
    }

    private static void looksAndTouches() {
        int[][] touches = {{0, 1, 1, 0, 0, 1, 0, 1}, {0, 1, -9, 1, 0}, {1, -9, -9, 1, 1}, {0, -9, -9, 1, 1}};
        for (int kind = 0; kind < 4; kind++) {
            NudgeLocks x = lock(kind);
            x.go(0);
            x.step(1);
            x.step(1);
            for (int i = 0; i < 30; i++) {
                int v = i % 2;
                int stage = x.visitor(v, 0);
                int name = kind * 10 + stage;
                Check.due("wouldTouch at kind and stage " + name, x.wouldTouch(v), touches[kind][stage]);
                x.step(v);
            }
        }
        NudgeLocks x = new NudgeLocks();
        x.go(0);
        x.go(1);
        Check.due("wouldLook with the flag up", x.wouldLook(1), 1);
        Check.due("wouldTouch of a look at the own flag", x.wouldTouch(1), 0);
        Check.due("wouldLook inside", x.wouldLook(0), 0);
        Check.due("wouldLook away", x.wouldLook(5), 0);
        x.go(0);
        Check.due("wouldLook with the flag down", x.wouldLook(1), 0);
        x.go(1);
        x.step(2);
        x.step(2);
        x.go(1);
        Check.due("at 6 with nobody known", x.wouldLook(1), 1);
        x.step(2);
        Check.due("at 6 with somebody known", x.wouldLook(1), 0);
        NudgeLocks y = lock(1);
        y.go(0);
        y.go(1);
        Check.due("wouldTouch of a look at a card", y.wouldTouch(1), 1);
        Check.due("wouldLook at a card that is up", y.wouldLook(1), 1);
        y.go(0);
        Check.due("wouldTouch at a card that nobody has", y.wouldTouch(1), 1);
        Check.due("wouldLook at a card that is down", y.wouldLook(1), 0);
    }

    private static void agreesWithSteps() {
        for (int kind = 0; kind < 4; kind++) {
            NudgeLocks x = lock(kind);
            for (int i = 0; i < 300; i++) {
                int v = (i * 7 + i / 11 * 3 + i / 5) % 6;
                int touches = x.visitor(v, 4);
                int looks = x.visitor(v, 2);
                int wouldTouch = x.wouldTouch(v);
                int wouldLook = x.wouldLook(v);
                x.step(v);
                Check.due("touches, kind " + kind, x.visitor(v, 4) - touches, wouldTouch);
                Check.due("looks, kind " + kind, x.visitor(v, 2) - looks, wouldLook);
            }
        }
    }

    private static void stepsToFinish() {
        for (int kind = 0; kind < 4; kind++) {
            NudgeLocks x = lock(kind);
            Check.due("stepsToFinish() with all away", x.stepsToFinish(), 0);
            for (int i = 0; i < 40; i++) {
                x.draw(63, 1 + i);
                int states = x.total(13);
                int steps = x.total(5);
                int would = x.stepsToFinish();
                Check.due("states after stepsToFinish()", x.total(13), states);
                Check.due("steps after stepsToFinish()", x.total(5), steps);
                int took = x.finish();
                Check.due("finish() after stepsToFinish(), kind " + kind, took, would == 0 ? -5 : would);
                x.undo();
            }
        }
        NudgeLocks x = new NudgeLocks();
        x.go(0);
        Check.due("stepsToFinish() from inside", x.stepsToFinish(), 2);
        x.step(4);
        // Round 1: 0 to 5, 4 to 2; round 2: 0 to 6, 4 to 3; 0 to 7, 4 looks; 0 to 0, 4 to 4; 4 to 5; 4 to 0.
        Check.due("stepsToFinish() of two", x.stepsToFinish(), 10);
    }

    private static void ordersOfTickets() {
        NudgeLocks x = lock(2);
        // None drew: 1. One drew: waiting, inside, back: 3. Both drew: the first one waits or is inside: 2; it is back
        // and the second one waits or is inside: 2. These 7 for each of both orders; and both back, with no tickets: 1.
        dueOrders(x, 0, 1, 16, 0, 0);
        x.go(0);
        // 0 is inside: 1 away, waiting; 0 back: 1 away, waiting, inside, back.
        dueOrders(x, 0, 1, 6, 0, 0);
        x.step(2);
        // 3 and 4 wait behind 2: none drew, one drew, both drew in two ways; all are stuck when both drew.
        dueOrders(x, 3, 4, 5, 0, 2);
        // 2 has its ticket: it can get in only when 0 is out.
        dueOrders(x, 0, 2, 4, 0, 0);
        x.go(4);
        // Both wait and nobody lets them in: the state of now alone, and it is stuck.
        dueOrders(x, 2, 4, 1, 0, 1);
    }

    private static void ordersOfGrabbing() {
        NudgeLocks x = lock(3);
        // Each at 0, 3, 4 or back, but for both at 4: 15.
        dueOrders(x, 2, 4, 15, 0, 0);
        x.go(5);
        dueOrders(x, 2, 4, 4, 0, 1);
        dueOrders(x, 2, 5, 6, 0, 0);
    }

    private static void ordersOfNudges() {
        NudgeLocks x = new NudgeLocks();
        dueOrders(x, 0, 5, 43, 0, 0);
        x.go(0);
        x.go(1);
        // 1 waits for 0: 0 at 4 and 7, then away: 1 at 3, 4, 5, back.
        dueOrders(x, 0, 1, 6, 0, 0);
        // 1 waits, 2 comes to 3 behind it: four stages, stuck at the last.
        dueOrders(x, 1, 2, 4, 0, 1);
        // Each at 0 or 1: 4; one at 2 or 3, the other at 0 or 1: 4 for each; both at 2 or 3, in either order: 8.
        dueOrders(x, 2, 3, 20, 0, 2);
    }

    private static void ordersOfWatching() {
        NudgeLocks x = lock(1);
        // Each at 0 or 1: 4. One took the tail first: waiting, inside or back with the other at 0, 1 or waiting: 9 for
        // each of both; the other inside or back after it: 2 for each.
        dueOrders(x, 0, 1, 4 + 18 + 4, 0, 0);
        x.go(3);
        // Each at 0 or 1: 4; one waits, the other at 0 or 1: 2 for each; both wait: 2.
        dueOrders(x, 0, 1, 10, 0, 2);
    }

    private static void ordersChangeNothing() {
        NudgeLocks x = new NudgeLocks();
        x.draw(63, 20);
        int states = x.total(13);
        int steps = x.total(5);
        int lot = x.total(12);
        int[] stages = new int[6];
        for (int v = 0; v < 6; v++) {
            stages[v] = x.visitor(v, 0);
        }
        for (int what = 0; what < 3; what++) {
            int first = x.orders(0, 1, what);
            x.orders(2, 3, 0);
            Check.due("the same again", x.orders(0, 1, what), first);
        }
        Check.due("states", x.total(13), states);
        Check.due("steps", x.total(5), steps);
        Check.due("x", x.total(12), lot);
        for (int v = 0; v < 6; v++) {
            Check.due("stage of " + v, x.visitor(v, 0), stages[v]);
        }
    }
}
