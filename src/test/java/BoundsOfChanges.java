/** The sentences of the promises 1 to 6 and 8, each with a test of its own; the promise 7 is in BoundsOfTexts. */
final class BoundsOfChanges {
    private BoundsOfChanges() {
    }

    static void run() {
        newObject();
        inPlace();
        countsGoOn();
        kinds();
        notAway();
        step();
        goOn();
        goAnswers();
        drawing();
        drawingRanges();
        shuffling();
        shufflingRanges();
        rounds();
        finishing();
    }

    private static void newObject() {
        Doc.says("Promise 1", "Creates a lock of the kind 0, with all visitors away.");
        NudgeLocks x = new NudgeLocks();
        Check.due("kind", x.total(0), 0);
        Check.due("visitors that are not away", x.total(3), 0);
        for (int v = 0; v < 6; v++) {
            Check.due("stage of " + v, x.visitor(v, 0), 0);
        }
        int[] totals = {0, -5, -5, 0, 0, 0, 0, 0, 0, -5, -5, -5, 1, 0, 0};
        for (int what = 0; what < 15; what++) {
            Check.due("total(" + what + ")", x.total(what), totals[what]);
        }
        Lead.refused("undo()", y -> { }, NudgeLocks::undo, -5);
        Lead.refused("restore()", y -> { }, NudgeLocks::restore, -5);
        NudgeLocks busy = BoundsOfHistory.busy(2);
        Check.due("a second object has a state of its own", new NudgeLocks().total(5) + busy.total(0), 2);
    }

    /** What can be seen of the lock itself, without counts and x. */
    private static String face(NudgeLocks x) {
        StringBuilder s = new StringBuilder();
        for (int what : new int[] {0, 1, 2, 3, 4, 9, 10, 11}) {
            s.append(x.total(what)).append(' ');
        }
        for (int v = 0; v < 6; v++) {
            s.append(x.visitor(v, 0)).append(' ');
            for (int what = 5; what <= 10; what++) {
                s.append(x.visitor(v, what)).append(' ');
            }
        }
        for (int card = 0; card < 7; card++) {
            s.append(x.card(card)).append(' ').append(x.inLine(card)).append(' ');
        }
        return s.toString();
    }

    private static void inPlace() {
        Doc.says("Promise 2", "Puts a lock of a kind in place of the one that there is, as it is at first.");
        for (int kind = 0; kind < 4; kind++) {
            for (int before = 0; before < 4; before++) {
                NudgeLocks x = Lead.lock(before);
                x.draw(63, 60);
                x.finish();
                // One who comes alone leaves its flag up (kind 0), and has another card (kind 1).
                x.go(3);
                x.go(3);
                x.build(kind);
                Check.holds("build(" + kind + ") after the use of " + before + " is as at first",
                        face(x).equals(face(Lead.lock(kind))));
                x.go(4);
                NudgeLocks fresh = Lead.lock(kind);
                fresh.go(4);
                Check.holds("and goes on so, " + kind + " after " + before, face(x).equals(face(fresh)));
            }
        }

        Doc.says("Promise 2", "This is a change.");
        for (int kind = 0; kind < 4; kind++) {
            int k = kind;
            Lead.recorded("build(" + kind + ")", Lead.lock(2), x -> x.build(k));
        }
    }

    private static void countsGoOn() {
        Doc.says("Promise 2", "Counts go on.");
        NudgeLocks x = new NudgeLocks();
        x.go(1);
        x.go(0);
        x.step(0);
        x.finish();
        x.shuffle(31);
        int[][] counts = new int[6][5];
        int[] sums = new int[9];
        for (int what = 1; what < 5; what++) {
            sums[what] = x.total(what + 4);
            for (int v = 0; v < 6; v++) {
                counts[v][what] = x.visitor(v, what);
            }
        }
        x.build(3);
        for (int what = 1; what < 5; what++) {
            Check.holds("there was something to count", sums[what] > 0);
            Check.due("total(" + (what + 4) + ")", x.total(what + 4), sums[what]);
            for (int v = 0; v < 6; v++) {
                Check.due("visitor(" + v + ", " + what + ")", x.visitor(v, what), counts[v][what]);
            }
        }
        Check.due("x is no part of the lock", x.total(12), 31);
        x.go(1);
        Check.due("steps then", x.visitor(1, 1), counts[1][1] + 2);
    }

    private static void kinds() {
        Doc.says("Promise 2", "`kind`: 0 to 3");
        NudgeLocks x = new NudgeLocks();
        for (int kind : new int[] {-1, 4, 5, Integer.MIN_VALUE, Integer.MAX_VALUE}) {
            Check.due("build(" + kind + ")", x.build(kind), -1);
        }
        for (int kind = 0; kind < 4; kind++) {
            Check.holds("build(" + kind + ") is not refused", x.build(kind) >= 0);
            Check.due("total(0)", x.total(0), kind);
        }

        Doc.says("Promise 2", "Returns the previous kind; UNKNOWN;");
        for (int from = 0; from < 4; from++) {
            for (int to = 0; to < 4; to++) {
                Check.due("build(" + to + ") on " + from, Lead.lock(from).build(to), from);
            }
        }
        Lead.refused("build(-1)", y -> y.build(1), y -> y.build(-1), -1);
        Lead.refused("build(4)", y -> y.build(1), y -> y.build(4), -1);
    }

    private static void notAway() {
        Doc.says("Promise 2", "NOT_POSSIBLE if a visitor is not away.");
        for (int kind = 0; kind < 4; kind++) {
            for (int stage : Lead.STAGES[kind]) {
                NudgeLocks x = Lead.at(kind, stage, 5, 0);
                Check.due("build(1) at the kind " + kind + " and the stage " + stage, x.build(1), stage == 0 ? kind : -4);
            }
            for (int v = 0; v < 6; v++) {
                NudgeLocks x = Lead.lock(kind);
                x.step(v);
                Check.due("build(" + kind + ") with " + v + " alone", x.build(kind), -4);
                x.finish();
                Check.due("build(" + kind + ") when it is back", x.build(kind), kind);
            }
        }
        Lead.refused("build(3) with one at the stage 1", x -> x.step(5), x -> x.build(3), -4);
    }

    private static void step() {
        Doc.says("Promise 3", "Lets a visitor make a step.");
        for (int kind = 0; kind < 4; kind++) {
            NudgeLocks x = Lead.lock(kind);
            x.step(2);
            Check.due("steps of 2, kind " + kind, x.visitor(2, 1), 1);
            Check.due("steps of all, kind " + kind, x.total(5), 1);
            Check.due("visitors that are not away, kind " + kind, x.total(3), 1);
        }
        Doc.says("Promise 3", "This is a change.");
        for (int kind = 0; kind < 4; kind++) {
            Lead.recorded("step(2), kind " + kind, Lead.lock(kind), x -> x.step(2));
            Lead.recorded("step(2) that is a look, kind " + kind, Lead.at(kind, 3, 2, 1), x -> x.step(2));
        }
        Doc.saysNothingToTest("Promise 3", "`visitor`: a visitor");
        Doc.says("Promise 3", "Returns the stage at which it is then; UNKNOWN.");
        int[][] then = {{1, 4, 3, 3, 5, 0, 6, 0}, {1, 3, 3, 0}, {3, 3, 0}, {3, 3, 0}};
        for (int kind = 0; kind < 4; kind++) {
            for (int i = 0; i < then[kind].length; i++) {
                int stage = Lead.STAGES[kind][i];
                NudgeLocks x = Lead.at(kind, stage, 0, 5);
                Check.due("step(0) at the kind " + kind + " and the stage " + stage, x.step(0), then[kind][i]);
                Check.due("visitor(0, 0) then", x.visitor(0, 0), then[kind][i]);
            }
        }
        for (int n : Lead.NO_VISITORS) {
            Lead.refused("step(" + n + ")", x -> x.step(1), x -> x.step(n), -1);
        }
    }

    private static void goOn() {
        Doc.says("Promise 4", "Lets a visitor make steps, at least one, until it is inside, or away, or would make a look.");
        int[][] lengths = {{2, 1, 1, 0, 2, 1, 0, 1}, {3, 2, 0, 1}, {2, 0, 1}, {2, 0, 1}};
        int[][] ends = {{4, 4, 3, 3, 0, 0, 6, 0}, {4, 4, 3, 0}, {4, 3, 0}, {4, 3, 0}};
        for (int kind = 0; kind < 4; kind++) {
            for (int i = 0; i < lengths[kind].length; i++) {
                int stage = Lead.STAGES[kind][i];
                NudgeLocks x = Lead.at(kind, stage, 4, 1);
                int steps = x.visitor(4, 1);
                int looks = x.total(6);
                x.go(4);
                String name = " after go(4) at the kind " + kind + " and the stage " + stage;
                Check.due("steps" + name, x.visitor(4, 1) - steps, lengths[kind][i]);
                Check.due("stage" + name, x.visitor(4, 0), ends[kind][i]);
                Check.due("looks" + name, x.total(6), looks);
            }
        }
        NudgeLocks x = Lead.at(0, 3, 4, 1);
        x.go(1);
        x.go(4);
        Check.due("it stops inside", x.visitor(4, 0), 4);
        x.go(4);
        Check.due("at least one step from inside", x.visitor(4, 0), 0);
        x.go(4);
        Check.due("at least one step from away", x.visitor(4, 0), 4);
        x = Lead.at(0, 4, 4, 1);
        Lead.steps(x, 1, 1);
        x.go(4);
        Check.due("it stops where it would look for who is behind", x.visitor(4, 0), 6);

        Doc.says("Promise 4", "This is a change.");
        for (int kind = 0; kind < 4; kind++) {
            Lead.recorded("go(2), kind " + kind, Lead.lock(kind), y -> y.go(2));
            Lead.recorded("go(2) out, kind " + kind, Lead.at(kind, 4, 2, 1), y -> y.go(2));
        }
    }

    private static void goAnswers() {
        Doc.saysNothingToTest("Promise 4", "`visitor`: a visitor");
        Doc.says("Promise 4", "Returns how many steps it makes; UNKNOWN;");
        int[] in = {2, 3, 2, 2};
        int[] out = {2, 1, 1, 1};
        int[] behind = {3, 2, 1, 1};
        for (int kind = 0; kind < 4; kind++) {
            NudgeLocks x = Lead.lock(kind);
            Check.due("go(5) in, kind " + kind, x.go(5), in[kind]);
            Check.due("go(0) behind, kind " + kind, x.go(0), behind[kind]);
            Check.due("go(5) out with one behind, kind " + kind, x.go(5), out[kind]);
            Check.due("go(0) in, kind " + kind, x.go(0), 1);
            Check.due("go(0) out, kind " + kind, x.go(0), out[kind]);
        }
        for (int n : Lead.NO_VISITORS) {
            Lead.refused("go(" + n + ")", x -> x.step(1), x -> x.go(n), -1);
        }

        Doc.says("Promise 4", "NONE if its first step would be a look.");
        int[][] looks = {{0, 3}, {0, 6}, {1, 3}, {2, 3}, {3, 3}};
        for (int[] k : looks) {
            NudgeLocks x = Lead.at(k[0], k[1], 4, 1);
            Check.due("go(4) at the kind " + k[0] + " and the stage " + k[1], x.go(4), -5);
            Check.due("looks then", x.total(6), 0);
        }
        for (int kind = 0; kind < 4; kind++) {
            int k = kind;
            Lead.refused("go(4) that would look, kind " + kind, x -> {
                x.build(k);
                x.go(1);
                x.go(4);
            }, x -> x.go(4), -5);
        }
        NudgeLocks x = Lead.at(0, 3, 4, 1);
        x.go(1);
        Check.due("go(4) when its flag is down", x.go(4), 1);
    }

    private static void drawing() {
        Doc.says("Promise 5", "Lets visitors that are drawn make steps.");
        NudgeLocks x = new NudgeLocks();
        x.draw(63, 200);
        Check.due("steps of all", x.total(5), 200);
        // From x = 1 the quotients by 65536 are 16838, 5758, 10113, 17515: modulo 2 they are 0, 0, 1, 1.
        NudgeLocks y = new NudgeLocks();
        y.draw(0b100010, 4);
        Check.due("steps of 1", y.visitor(1, 1), 2);
        Check.due("steps of 5", y.visitor(5, 1), 2);
        Check.due("1 is inside", y.total(1), 1);
        Check.due("5 is behind it", y.visitor(5, 6), 1);

        Doc.says("Promise 5", "This is a change.");
        Lead.recorded("draw(63, 200)", new NudgeLocks(), z -> z.draw(63, 200));
        Lead.recorded("draw(1, 1)", new NudgeLocks(), z -> z.draw(1, 1));
        Lead.recorded("draw(2, 9) with looks alone", Lead.at(0, 3, 1, 0), z -> z.draw(2, 9));
    }

    private static void drawingRanges() {
        Doc.says("Promise 5", "`visitors`: a set of visitors as bits, 1 to 63");
        NudgeLocks x = new NudgeLocks();
        for (int set : new int[] {0, 64, 65, -1, -63, 127, Integer.MIN_VALUE, Integer.MAX_VALUE}) {
            Check.due("draw(" + set + ", 1)", x.draw(set, 1), -2);
        }
        Check.due("draw(1, 1)", x.draw(1, 1), 0);
        Check.due("it was 0", x.visitor(0, 1), 1);
        Check.due("draw(32, 1)", x.draw(32, 1), 0);
        Check.due("it was 5", x.visitor(5, 1), 1);
        Check.due("draw(63, 1)", x.draw(63, 1), 0);

        Doc.says("Promise 5", "`steps`: 1 to 200");
        NudgeLocks y = new NudgeLocks();
        for (int steps : new int[] {0, -1, 201, 202, Integer.MIN_VALUE, Integer.MAX_VALUE}) {
            Check.due("draw(63, " + steps + ")", y.draw(63, steps), -2);
        }
        Check.due("no step was made", y.total(5), 0);
        y.draw(63, 1);
        Check.due("steps after draw(63, 1)", y.total(5), 1);
        y.draw(63, 199);
        Check.due("steps after draw(63, 199)", y.total(5), 200);
        y.draw(63, 200);
        Check.due("steps after draw(63, 200)", y.total(5), 400);

        Doc.says("Promise 5", "Returns how many visits are counted in them; OUT_OF_RANGE.");
        NudgeLocks z = new NudgeLocks();
        Check.due("draw(4, 3)", z.draw(4, 3), 0);
        Check.due("draw(4, 1), the step with which it comes back", z.draw(4, 1), 1);
        Check.due("draw(4, 8), without the visit before", z.draw(4, 8), 2);
        Check.due("draw(4, 200)", z.draw(4, 200), 50);
        Check.due("visits of all", z.total(7), 53);
        z.build(2);
        Check.due("draw(4, 200), kind 2", z.draw(4, 200), 66);
        Lead.refused("draw(0, 1)", w -> w.step(1), w -> w.draw(0, 1), -2);
        Lead.refused("draw(64, 1)", w -> w.step(1), w -> w.draw(64, 1), -2);
        Lead.refused("draw(63, 0)", w -> w.step(1), w -> w.draw(63, 0), -2);
        Lead.refused("draw(63, 201)", w -> w.step(1), w -> w.draw(63, 201), -2);
    }

    private static void shuffling() {
        Doc.says("Promise 6", "Changes x.");
        NudgeLocks x = new NudgeLocks();
        x.shuffle(1234567);
        Check.due("total(12)", x.total(12), 1234567);
        x.draw(63, 1);
        Check.due("the next lot goes on from it", x.total(12), (1234567L * 1103515245L + 12345L) % 2147483648L);

        Doc.says("Promise 6", "This is a change.");
        Lead.recorded("shuffle(0)", new NudgeLocks(), y -> y.shuffle(0));
        Lead.recorded("shuffle(2147483647)", new NudgeLocks(), y -> y.shuffle(2147483647));
    }

    private static void shufflingRanges() {
        Doc.says("Promise 6", "`number`: 0 to 2147483647");
        NudgeLocks x = new NudgeLocks();
        Check.due("shuffle(-1)", x.shuffle(-1), -2);
        Check.due("shuffle(-2147483648)", x.shuffle(Integer.MIN_VALUE), -2);
        Check.due("shuffle(0)", x.shuffle(0), 1);
        Check.due("shuffle(2147483647)", x.shuffle(2147483647), 0);
        Check.due("shuffle(2147483646)", x.shuffle(2147483646), 2147483647);

        Doc.says("Promise 6", "Returns the previous x; OUT_OF_RANGE;");
        Check.due("shuffle(1)", x.shuffle(1), 2147483646);
        x.draw(1, 1);
        Check.due("shuffle(2) after a lot", x.shuffle(2), 1103527590);
        Lead.refused("shuffle(-1)", y -> y.shuffle(3), y -> y.shuffle(-1), -2);

        Doc.says("Promise 6", "NONE if it is x already.");
        for (int number : new int[] {0, 1, 2, 2147483647}) {
            NudgeLocks y = new NudgeLocks();
            y.shuffle(number);
            int states = y.total(13);
            Check.due("shuffle(" + number + ") again", y.shuffle(number), -5);
            Check.due("states then", y.total(13), states);
        }
        Lead.refused("shuffle(1) of a new object", y -> { }, y -> y.shuffle(1), -5);
        Lead.refused("shuffle(9) twice", y -> y.shuffle(9), y -> y.shuffle(9), -5);
    }

    private static void rounds() {
        Doc.says("Promise 8", "Lets all visitors come back: round by round each visitor that is not away makes one step, by "
                + "their numbers, until all are away.");
        for (int kind = 0; kind < 4; kind++) {
            NudgeLocks x = BoundsOfHistory.busy(kind);
            NudgeLocks y = BoundsOfHistory.busy(kind);
            x.finish();
            for (int round = 0; round < 40 && y.total(3) > 0; round++) {
                for (int v = 0; v < 6 && y.total(3) > 0; v++) {
                    if (y.visitor(v, 0) != 0) {
                        y.step(v);
                    }
                }
            }
            Check.due("visitors that are not away, kind " + kind, x.total(3), 0);
            Check.holds("all is as after the steps one by one, kind " + kind, Lead.all(x).equals(Lead.all(y)));
        }
        NudgeLocks x = Lead.lock(3);
        Lead.steps(x, 5, 0);
        x.finish();
        Check.due("by their numbers: 0 gets in first and does not look", x.visitor(0, 2), 0);
        Check.due("5 looks once", x.visitor(5, 2), 1);
        Check.due("who was away makes no step", x.visitor(3, 1), 0);
        Check.due("who comes back stays away", x.visitor(0, 1), 3);

        Doc.says("Promise 8", "This is a change.");
        for (int kind = 0; kind < 4; kind++) {
            Lead.recorded("finish(), kind " + kind, Lead.at(kind, 3, 1, 2), NudgeLocks::finish);
        }
    }

    private static void finishing() {
        Doc.says("Promise 8", "Returns how many steps are made;");
        for (int kind = 0; kind < 4; kind++) {
            NudgeLocks x = Lead.lock(kind);
            int[] alone = {3, 3, 2, 2};
            x.step(5);
            Check.due("finish() with one, kind " + kind, x.finish(), alone[kind]);
            x.go(5);
            x.go(2);
            x.step(1);
            int steps = x.total(5);
            int made = x.finish();
            Check.due("finish() with three, kind " + kind, made, x.total(5) - steps);
            Check.holds("looks are steps, too, kind " + kind, x.total(6) > 0);
        }
        // 2 has the ticket 0, 0 has 1. Round 1: 0 looks, 2 in; 2: 0 looks, 2 out; 3: 0 in; 4: 0 out.
        NudgeLocks y = Lead.lock(2);
        Lead.steps(y, 2, 0);
        Check.due("finish() with two tickets", y.finish(), 6);
        Check.due("looks in it", y.total(6), 2);

        Doc.says("Promise 8", "NONE if all are away.");
        for (int kind = 0; kind < 4; kind++) {
            int k = kind;
            Lead.refused("finish() with all away, kind " + kind, x -> {
                x.build(k);
                x.go(3);
                x.go(3);
            }, NudgeLocks::finish, -5);
            NudgeLocks x = Lead.lock(kind);
            x.step(3);
            x.finish();
            Check.due("finish() after finish(), kind " + kind, x.finish(), -5);
        }
        Lead.refused("finish() of a new object", x -> { }, NudgeLocks::finish, -5);
    }
}
