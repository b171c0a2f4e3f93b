/** Promises 14 to 17: what there is, with each kind of lock. */
public final class ReadingTest {
    private ReadingTest() {
    }

    public static void main(String[] args) {
        ranges();
        nudges();
        watching();
        tickets();
        grabbing();
        counts();
        whoIsInside();
        Check.end();
    }

    private static void due(NudgeLocks x, int v, int... wants) {
        for (int what = 0; what < wants.length; what++) {
            Check.due("visitor(" + v + ", " + what + "), kind " + x.total(0), x.visitor(v, what), wants[what]);
        }
    }

    private static void dueLine(NudgeLocks x, int... line) {
        for (int place = 0; place < 7; place++) {
            Check.due("inLine(" + place + "), kind " + x.total(0), x.inLine(place), place < line.length ? line[place] : -5);
        }
        for (int v = 0; v < 6; v++) {
            int at = -5;
            for (int place = 0; place < line.length; place++) {
                at = line[place] == v ? place : at;
            }
            Check.due("visitor(" + v + ", 10), kind " + x.total(0), x.visitor(v, 10), at);
        }
    }

    private static void ranges() {
        NudgeLocks x = new NudgeLocks();
        int[] far = {Integer.MIN_VALUE, -7, -1, 16, 64, Integer.MAX_VALUE};
        for (int n : far) {
            Check.due("visitor(" + n + ", 0)", x.visitor(n, 0), -1);
            Check.due("visitor(" + n + ", -1)", x.visitor(n, -1), -1);
            Check.due("visitor(0, " + n + ")", x.visitor(0, n), -2);
            Check.due("total(" + n + ")", x.total(n), -2);
            Check.due("card(" + n + ")", x.card(n), -1);
            Check.due("inLine(" + n + ")", x.inLine(n), n < 0 ? -2 : -5);
        }
        Check.due("visitor(6, 0)", x.visitor(6, 0), -1);
        Check.due("visitor(5, 11)", x.visitor(5, 11), -2);
        Check.due("total(15)", x.total(15), -2);
        Check.due("card(7)", x.card(7), -1);
        Check.due("card(6), kind 0", x.card(6), -5);
        Check.due("card(0), kind 0", x.card(0), -5);
    }

    private static void nudges() {
        NudgeLocks x = new NudgeLocks();
        x.step(2);
        due(x, 2, 1, 1, 0, 0, 0, -5, -5, -5, -5, 1, -5);
        dueLine(x);
        x.step(2);
        due(x, 2, 4, 2, 0, 0, 1, -5, -5, -5, -5, 1, 0);
        Check.due("total(1)", x.total(1), 2);
        Check.due("total(2)", x.total(2), 2);
        x.step(5);
        x.step(0);
        x.step(0);
        x.step(5);
        due(x, 0, 2, 2, 0, 0, 1, -5, 2, -5, -5, 1, 1);
        due(x, 5, 2, 2, 0, 0, 1, -5, 0, -5, -5, 1, 2);
        due(x, 2, 4, 2, 0, 0, 1, -5, -5, -5, -5, 1, 0);
        Check.due("total(2)", x.total(2), 5);
        Check.due("total(3)", x.total(3), 3);
        Check.due("total(4)", x.total(4), 2);
        dueLine(x, 2, 0, 5);
        x.step(5);
        due(x, 5, 3, 3, 0, 0, 2, -5, 0);
        due(x, 0, 2, 2, 0, 0, 1, 5, 2);
        Check.due("total(4), one known", x.total(4), 1);
        x.step(2);
        x.step(2);
        due(x, 2, 6, 4, 0, 0, 2, -5, -5, -5, -5, 1, 0);
        x.step(2);
        due(x, 2, 6, 5, 1, 0, 2);
        Check.due("total(1), nobody inside", x.total(1), -5);
        dueLine(x, 2, 0, 5);
        x.step(0);
        due(x, 0, 3, 3, 0, 0, 2, 5, 2);
        due(x, 2, 6, 5, 1, 0, 2, 0);
        x.go(2);
        due(x, 2, 0, 7, 1, 1, 3, 0, -5, -5, -5, 1, -5);
        due(x, 0, 3, 3, 0, 0, 2, 5, 2, -5, -5, 0, 0);
        dueLine(x, 0, 5);
        x.go(0);
        due(x, 0, 4, 4, 0, 0, 2, 5, -5, -5, -5, 0, 0);
        x.finish();
        dueLine(x);
        Check.due("total(2) at the end", x.total(2), -5);
        due(x, 5, 0, 7, 1, 1, 3, -5, -5, -5, -5, 0, -5);
        due(x, 0, 0, 6, 0, 1, 3, 5, -5, -5, -5, 0, -5);
    }

    private static void watching() {
        NudgeLocks x = new NudgeLocks();
        x.build(1);
        for (int v = 0; v < 6; v++) {
            due(x, v, 0, 0, 0, 0, 0, -5, -5, v, -5, -5, -5);
        }
        for (int card = 0; card < 7; card++) {
            Check.due("card(" + card + ")", x.card(card), 0);
        }
        Check.due("card(7)", x.card(7), -1);
        Check.due("card(-1)", x.card(-1), -1);
        x.step(3);
        due(x, 3, 1, 1, 0, 0, 0, -5, -5, 3, -5, -5, -5);
        Check.due("card(3) is up", x.card(3), 1);
        Check.due("the tail is still 6", x.total(2), 6);
        x.step(3);
        due(x, 3, 3, 2, 0, 0, 1, -5, 6, 3, -5, -5, 0);
        Check.due("the tail is 3", x.total(2), 3);
        x.step(3);
        due(x, 3, 4, 3, 0, 0, 2, -5, 6, 3, -5, -5, 0);
        x.go(1);
        due(x, 1, 3, 2, 0, 0, 1, -5, 3, 1, -5, -5, 1);
        x.step(1);
        due(x, 1, 3, 3, 1, 0, 2, -5, 3, 1, -5, -5, 1);
        Check.due("total(4), none is at the stage 2", x.total(4), 0);
        dueLine(x, 3, 1);
        x.step(3);
        due(x, 3, 0, 4, 0, 1, 2, -5, -5, 6, -5, -5, -5);
        Check.due("card(3) is down", x.card(3), 0);
        Check.due("card(1) is up", x.card(1), 1);
        Check.due("card(6) is down", x.card(6), 0);
        dueLine(x, 1);
        x.go(3);
        due(x, 3, 3, 6, 0, 1, 3, -5, 1, 6, -5, -5, 1);
        Check.due("card(6) is up", x.card(6), 1);
        Check.due("the tail is 6", x.total(2), 6);
        x.step(1);
        Check.due("1 is inside", x.total(1), 1);
        Check.due("the card 3, which nobody has, cost one", x.visitor(1, 4), 3);
    }

    private static void tickets() {
        NudgeLocks x = new NudgeLocks();
        x.build(2);
        Check.due("given at first", x.total(9), 0);
        Check.due("served at first", x.total(10), 0);
        due(x, 4, 0, 0, 0, 0, 0, -5, -5, -5, -5, -5, -5);
        x.step(4);
        x.step(2);
        due(x, 4, 3, 1, 0, 0, 1, -5, -5, -5, 0, -5, 0);
        due(x, 2, 3, 1, 0, 0, 1, -5, -5, -5, 1, -5, 1);
        dueLine(x, 4, 2);
        x.step(2);
        due(x, 2, 3, 2, 1, 0, 2, -5, -5, -5, 1, -5, 1);
        x.step(4);
        Check.due("4 is inside", x.total(1), 4);
        dueLine(x, 4, 2);
        Check.due("served with one inside", x.total(10), 0);
        x.step(4);
        due(x, 4, 0, 3, 0, 1, 3, -5, -5, -5, -5, -5, -5);
        dueLine(x, 2);
        Check.due("given", x.total(9), 2);
        Check.due("served", x.total(10), 1);
        Check.due("no tail", x.total(2), -5);
        Check.due("no flag", x.total(11), -5);
        x.step(4);
        dueLine(x, 2, 4);
        Check.due("the third ticket", x.visitor(4, 8), 2);
    }

    private static void grabbing() {
        NudgeLocks x = new NudgeLocks();
        x.build(3);
        Check.due("the flag is down", x.total(11), 0);
        x.step(1);
        due(x, 1, 3, 1, 0, 0, 0, -5, -5, -5, -5, -5, -5);
        Check.due("the flag is still down", x.total(11), 0);
        x.step(0);
        x.step(0);
        Check.due("the flag is up", x.total(11), 1);
        due(x, 0, 4, 2, 0, 0, 1, -5, -5, -5, -5, -5, -5);
        x.step(1);
        due(x, 1, 3, 2, 1, 0, 1);
        dueLine(x);
        x.step(0);
        due(x, 0, 0, 3, 0, 1, 2);
        Check.due("the flag is down again", x.total(11), 0);
        Check.due("no numbers: given", x.total(9), -5);
        Check.due("no numbers: served", x.total(10), -5);
        Check.due("no tail", x.total(2), -5);
    }

    private static void counts() {
        for (int kind = 0; kind < 4; kind++) {
            NudgeLocks x = new NudgeLocks();
            x.build(kind);
            x.draw(63, 200);
            x.draw(63, 155);
            int[] sums = new int[5];
            int present = 0;
            for (int v = 0; v < 6; v++) {
                present += x.visitor(v, 0) != 0 ? 1 : 0;
                for (int what = 1; what < 5; what++) {
                    sums[what] += x.visitor(v, what);
                }
            }
            Check.due("steps, kind " + kind, x.total(5), 355);
            Check.due("not away, kind " + kind, x.total(3), present);
            for (int what = 1; what < 5; what++) {
                Check.due("total(" + (what + 4) + "), kind " + kind, x.total(what + 4), sums[what]);
            }
        }
    }

    private static void whoIsInside() {
        for (int kind = 0; kind < 4; kind++) {
            for (int v = 0; v < 6; v++) {
                NudgeLocks x = new NudgeLocks();
                x.build(kind);
                x.go((v + 1) % 6);
                x.go((v + 1) % 6);
                Check.due("nobody is inside, kind " + kind, x.total(1), -5);
                x.go(v);
                x.go((v + 4) % 6);
                Check.due("who is inside, kind " + kind, x.total(1), v);
                Check.due("at the stage 2, kind " + kind, x.total(4), 0);
                Check.due("not away, kind " + kind, x.total(3), 2);
            }
        }
        NudgeLocks x = new NudgeLocks();
        x.go(0);
        x.go(2);
        Check.due("the next one of 0 is 2", x.visitor(0, 5), 2);
        Check.due("nobody is at the stage 2", x.total(4), 0);
    }
}
