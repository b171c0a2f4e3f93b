import java.util.LinkedHashMap;
import java.util.Map;

/** The sentences of HISTORY, and of the promises 11 to 13, each with a test of its own. */
final class BoundsOfHistory {
    private BoundsOfHistory() {
    }

    static void run() {
        atMostFour();
        recording();
        droppingTheOldest();
        emptySnapshot();
        whatTheStateIs();
        undoing();
        statesLeft();
        nothingToUndo();
        keeping();
        restoring();
    }

    /** A lock of this kind in the midst of things, with a text that has a schedule. */
    static NudgeLocks busy(int kind) {
        NudgeLocks x = Lead.lock(kind);
        x.draw(63, 45);
        x.go(0);
        Lead.type(x, "2(ab)f");
        return x;
    }

    static Map<String, Lead.Call> changes() {
        Map<String, Lead.Call> changes = new LinkedHashMap<>();
        changes.put("step(3)", x -> x.step(3));
        changes.put("draw(63, 7)", x -> x.draw(63, 7));
        changes.put("shuffle(99)", x -> x.shuffle(99));
        changes.put("perform()", NudgeLocks::perform);
        changes.put("finish()", NudgeLocks::finish);
        return changes;
    }

    private static void atMostFour() {
        Doc.says("HISTORY", "A history of at most 4 states is kept.");
        for (int made = 0; made <= 6; made++) {
            NudgeLocks x = new NudgeLocks();
            for (int i = 0; i < made; i++) {
                x.step(i);
            }
            int kept = Math.min(made, 4);
            Check.due("states after " + made + " changes", x.total(13), kept);
            for (int i = 1; i <= kept; i++) {
                Check.due("undo() number " + i + " after " + made + " changes", x.undo(), kept - i);
            }
            Check.due("one more undo() after " + made + " changes", x.undo(), -5);
        }
    }

    private static void recording() {
        Doc.says("HISTORY", "Each call of a method that is described as a change, and that returns neither an error nor "
                + "NONE, records the state before it;");
        for (int kind = 0; kind < 4; kind++) {
            int k = kind;
            changes().forEach((name, call) -> Lead.recorded(name + ", kind " + k, busy(k), call));
            NudgeLocks away = busy(kind);
            away.finish();
            Lead.recorded("build(" + (3 - kind) + "), kind " + kind, away, x -> x.build(3 - k));
            Lead.recorded("build(" + kind + "), kind " + kind, away, x -> x.build(k));
            Lead.recorded("go(0), kind " + kind, Lead.lock(kind), x -> x.go(0));
            NudgeLocks kept = busy(kind);
            kept.keep();
            kept.step(1);
            Lead.recorded("restore(), kind " + kind, kept, NudgeLocks::restore);
        }
        NudgeLocks x = new NudgeLocks();
        int[] answers = {x.build(7), x.step(6), x.go(-1), x.draw(0, 1), x.draw(1, 0), x.shuffle(-1), x.shuffle(1),
            x.perform(), x.finish(), x.restore()};
        for (int answer : answers) {
            Check.holds("refused, or NONE", answer < 0);
        }
        Check.due("states then", x.total(13), 0);
    }

    private static void droppingTheOldest() {
        Doc.says("HISTORY", "if there are 4 already, the oldest one is dropped.");
        for (int made = 4; made <= 9; made++) {
            NudgeLocks x = new NudgeLocks();
            for (int i = 1; i <= made; i++) {
                x.shuffle(1000 * i);
            }
            for (int i = 1; i <= 4; i++) {
                x.undo();
                int left = made - i;
                Check.due("x after " + made + " changes and " + i + " undos", x.total(12), left == 0 ? 1 : 1000 * left);
            }
            Check.due("undo() after " + made + " changes and 4 undos", x.undo(), -5);
        }
        NudgeLocks x = new NudgeLocks();
        for (int i = 1; i <= 4; i++) {
            x.shuffle(1000 * i);
        }
        x.step(6);
        x.shuffle(4000);
        x.perform();
        x.keep();
        x.type('a');
        Check.due("states after calls that record nothing", x.total(13), 4);
        for (int i = 0; i < 4; i++) {
            x.undo();
        }
        Check.due("x: they dropped nothing", x.total(12), 1);
    }

    private static void emptySnapshot() {
        Doc.says("HISTORY", "There is one snapshot, empty at first.");
        NudgeLocks x = new NudgeLocks();
        Check.due("restore() at first", x.restore(), -5);
        x.step(1);
        Check.due("restore() with a history alone", x.restore(), -5);
        x.keep();
        Check.due("restore() with a snapshot", x.restore(), 1);
        x.step(2);
        x.keep();
        x.step(3);
        x.restore();
        Check.due("steps in the one snapshot, the later one", x.total(5), 2);
        x.restore();
        Check.due("and again: there is no earlier one behind it", x.total(5), 2);
    }

    private static void whatTheStateIs() {
        Doc.says("HISTORY", "The state is everything except the text, the history and the snapshot.");
        for (int kind = 0; kind < 4; kind++) {
            NudgeLocks x = busy(kind);
            String before = Lead.all(x);
            x.keep();
            x.finish();
            x.build((kind + 1) % 4);
            x.draw(63, 77);
            Check.holds("another state, kind " + kind, !before.equals(Lead.all(x)));
            x.restore();
            Check.holds("restore() brings everything back, kind " + kind, before.equals(Lead.all(x)));
            x.undo();
            x.undo();
            x.undo();
            x.undo();
            Check.holds("four undos bring everything back, kind " + kind, before.equals(Lead.all(x)));
        }
        NudgeLocks x = Lead.typed("ab");
        x.keep();
        x.step(2);
        Lead.write(x, "ccc");
        Check.due("states ahead of restore()", x.total(13), 1);
        x.restore();
        Check.due("restore() leaves the text", x.total(14), 3);
        Check.due("restore() does not bring the history back", x.total(13), 2);
        x.undo();
        Lead.write(x, "dddd");
        x.undo();
        Check.due("undo() leaves the text", x.total(14), 4);
        Check.due("perform() of it", x.perform(), 4);
        Check.due("steps by it", x.visitor(3, 1), 4);
        x.keep();
        x.undo();
        Check.due("steps after undo()", x.total(5), 0);
        x.restore();
        Check.due("undo() leaves the snapshot", x.total(5), 4);
        Lead.steps(x, 0, 1);
        x.undo();
        x.restore();
        Check.due("undo() does not put its state in the snapshot's place", x.total(5), 4);
        x.undo();
        Check.due("restore() recorded the state that undo() had brought back", x.total(5), 5);
    }

    private static void undoing() {
        Doc.says("Promise 11", "Restores the latest state of the history, and removes it from there.");
        NudgeLocks x = new NudgeLocks();
        x.shuffle(10);
        x.shuffle(20);
        x.shuffle(30);
        x.undo();
        Check.due("the latest state", x.total(12), 20);
        Check.due("it is removed", x.total(13), 2);
        x.undo();
        Check.due("the one before it", x.total(12), 10);
        x.shuffle(40);
        Check.due("a change after it", x.total(13), 2);
        x.undo();
        Check.due("the latest state is the one before that change", x.total(12), 10);
        x.undo();
        Check.due("the first state", x.total(12), 1);
        NudgeLocks y = Lead.at(0, 6, 2, 4);
        String before = Lead.all(y);
        y.step(4);
        y.undo();
        Check.holds("everything is as before", before.equals(Lead.all(y)));
        Check.due("and goes on as before", y.step(4), 3);
    }

    private static void statesLeft() {
        Doc.says("Promise 11", "Returns how many states are left;");
        NudgeLocks x = new NudgeLocks();
        Lead.steps(x, 0, 1, 2, 3, 4);
        for (int left = 3; left >= 0; left--) {
            Check.due("undo()", x.undo(), left);
            Check.due("total(13)", x.total(13), left);
        }
        x.step(0);
        Check.due("undo() of one", x.undo(), 0);
    }

    private static void nothingToUndo() {
        Doc.says("Promise 11", "NONE if the history is empty.");
        Lead.refused("undo() of a new object", x -> { }, NudgeLocks::undo, -5);
        Lead.refused("undo() after the last state", x -> {
            x.step(1);
            x.undo();
        }, NudgeLocks::undo, -5);
        Lead.refused("undo() after four of five", x -> {
            Lead.steps(x, 0, 1, 2, 3, 4);
            x.keep();
            Lead.type(x, "ab");
            x.undo();
            x.undo();
            x.undo();
            x.undo();
        }, NudgeLocks::undo, -5);
    }

    private static void keeping() {
        Doc.says("Promise 12", "Takes a snapshot of the state, in place of an earlier one.");
        NudgeLocks x = new NudgeLocks();
        x.keep();
        x.shuffle(5);
        x.keep();
        x.shuffle(6);
        x.restore();
        Check.due("x of the later snapshot", x.total(12), 5);
        x.step(0);
        x.restore();
        Check.due("what came later is not in it", x.total(5), 0);
        for (int kind = 0; kind < 4; kind++) {
            NudgeLocks y = busy(kind);
            String before = Lead.all(y);
            int states = y.total(13);
            y.keep();
            Check.holds("keep() changes nothing that can be seen, kind " + kind, before.equals(Lead.all(y)));
            Check.due("keep() records nothing, kind " + kind, y.total(13), states);
        }

        Doc.says("Promise 12", "Returns how many visitors are not away.");
        for (int kind = 0; kind < 4; kind++) {
            NudgeLocks y = Lead.lock(kind);
            for (int v = 0; v <= 6; v++) {
                Check.due("keep() with " + v + " visitors, kind " + kind, y.keep(), v);
                y.step(v);
            }
        }
        NudgeLocks z = Lead.at(0, 6, 2, 4);
        Check.due("keep() with one who comes out and one behind", z.keep(), 2);
    }

    private static void restoring() {
        Doc.says("Promise 13", "Restores the state of the snapshot, which stays.");
        for (int kind = 0; kind < 4; kind++) {
            NudgeLocks x = busy(kind);
            String before = Lead.all(x);
            x.keep();
            x.draw(63, 20);
            x.restore();
            x.draw(63, 21);
            x.restore();
            Check.holds("all is back a second time, kind " + kind, before.equals(Lead.all(x)));
            Check.holds("restore() of the state of now, kind " + kind, x.restore() >= 0);
            Check.holds("all is as it was, kind " + kind, before.equals(Lead.all(x)));
        }

        Doc.says("Promise 13", "This is a change.");
        NudgeLocks x = busy(0);
        x.keep();
        x.draw(63, 30);
        Lead.recorded("restore()", x, NudgeLocks::restore);
        NudgeLocks y = new NudgeLocks();
        y.keep();
        Check.due("restore() with nothing to bring back", y.restore(), 0);
        Check.due("is recorded", y.total(13), 1);

        Doc.says("Promise 13", "Returns how many visitors are not away then;");
        for (int present = 0; present <= 6; present++) {
            NudgeLocks z = new NudgeLocks();
            for (int v = 0; v < present; v++) {
                z.step(v);
            }
            z.keep();
            z.finish();
            z.step(5);
            Check.due("restore() with " + present + " in the snapshot", z.restore(), present);
            Check.due("total(3)", z.total(3), present);
        }

        Doc.says("Promise 13", "NONE if there is no snapshot.");
        Lead.refused("restore() of a new object", z -> { }, NudgeLocks::restore, -5);
        Lead.refused("restore() with a full history", z -> {
            Lead.steps(z, 0, 1, 2, 3, 0);
            Lead.type(z, "ef");
        }, NudgeLocks::restore, -5);
    }
}
