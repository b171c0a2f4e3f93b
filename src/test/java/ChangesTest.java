/** Promises 1 to 8: a new object and the changes. */
public final class ChangesTest {
    private ChangesTest() {
    }

    public static void main(String[] args) {
        newObject();
        build();
        step();
        go();
        draw();
        drawOfSets();
        shuffle();
        perform();
        performFaults();
        performFull();
        finish();
        errorsChangeNothing();
        Check.end();
    }

    private static void type(NudgeLocks x, String text) {
        for (int i = 0; i < text.length(); i++) {
            x.type(text.charAt(i));
        }
    }

    private static void newObject() {
        NudgeLocks x = new NudgeLocks();
        int[] totals = {0, -5, -5, 0, 0, 0, 0, 0, 0, -5, -5, -5, 1, 0, 0};
        for (int what = 0; what < totals.length; what++) {
            Check.due("new: total(" + what + ")", x.total(what), totals[what]);
        }
        int[] each = {0, 0, 0, 0, 0, -5, -5, -5, -5, 0, -5};
        for (int v = 0; v < 6; v++) {
            for (int what = 0; what < each.length; what++) {
                Check.due("new: visitor(" + v + ", " + what + ")", x.visitor(v, what), each[what]);
            }
        }
        Check.due("new: undo()", x.undo(), NudgeLocks.NONE);
        Check.due("new: restore()", x.restore(), NudgeLocks.NONE);
    }

    private static void build() {
        NudgeLocks x = new NudgeLocks();
        Check.due("build(-1)", x.build(-1), -1);
        Check.due("build(4)", x.build(4), -1);
        Check.due("build(MIN)", x.build(Integer.MIN_VALUE), -1);
        Check.due("build(2) on 0", x.build(2), 0);
        x.go(3);
        Check.due("build(1) with one inside", x.build(1), -4);
        Check.due("build(4) with one inside", x.build(4), -1);
        x.go(3);
        x.shuffle(77);
        Check.due("build(2) on 2", x.build(2), 2);
        Check.due("given, as at first", x.total(9), 0);
        Check.due("served, as at first", x.total(10), 0);
        Check.due("steps go on", x.total(5), 3);
        Check.due("steps of 3 go on", x.visitor(3, 1), 3);
        Check.due("visits go on", x.total(7), 1);
        Check.due("touches go on", x.total(8), 3);
        Check.due("x stays", x.total(12), 77);
        Check.due("states: build, go, go, shuffle, build; the oldest is dropped", x.total(13), 4);
        Check.due("build(1) on 2", x.build(1), 2);
        x.finish();
        x.go(0);
        x.go(0);
        Check.due("own card moved", x.visitor(0, 7), 6);
        Check.due("build(1) on 1", x.build(1), 1);
        Check.due("own card as at first", x.visitor(0, 7), 0);
        Check.due("tail as at first", x.total(2), 6);
        Check.due("build(0) on 1", x.build(0), 1);
        x.go(0);
        x.go(0);
        Check.due("a flag stays up with one who came alone", x.visitor(0, 9), 1);
        x.go(0);
        x.go(2);
        x.finish();
        Check.due("the next one stays with one who went", x.visitor(0, 5), 2);
        Check.due("build(0) on 0", x.build(0), 0);
        Check.due("the flag as at first", x.visitor(0, 9), 0);
        Check.due("the next one as at first", x.visitor(0, 5), -5);
        Check.due("build(3) on 0", x.build(3), 0);
        Check.due("flag of the kind 3", x.total(11), 0);
        Check.due("build(0) on 3", x.build(0), 3);
    }

    private static void step() {
        NudgeLocks x = new NudgeLocks();
        Check.due("step(-1)", x.step(-1), -1);
        Check.due("step(6)", x.step(6), -1);
        Check.due("no states yet", x.total(13), 0);
        Check.due("0 at 0", x.step(0), 1);
        Check.due("0 at 1, alone", x.step(0), 4);
        Check.due("0 at 4, nobody next", x.step(0), 5);
        Check.due("0 at 5, the tail", x.step(0), 0);
        Check.due("the tail is nobody", x.total(2), -5);
        Check.due("a visit", x.visitor(0, 3), 1);
        Check.due("far touches: stages 1 and 5", x.visitor(0, 4), 2);
        x.go(0);
        x.step(1);
        Check.due("1 at 1, behind 0", x.step(1), 2);
        Check.due("a look at 3", (x.step(1) == 3 && x.step(1) == 3) ? 3 : 0, 3);
        Check.due("a look is a step", x.visitor(1, 1), 4);
        Check.due("a look is counted", x.visitor(1, 2), 1);
        Check.due("far touches: stages 1 and 2, a look at the own flag costs none", x.visitor(1, 4), 2);
        Check.due("0 at 4, 1 is next", x.step(0), 7);
        Check.due("0 at 7", x.step(0), 0);
        Check.due("the flag of 1 is down", x.visitor(1, 9), 0);
        Check.due("the next one of 0 stays", x.visitor(0, 5), 1);
        Check.due("far touches: 1, 5, 1, 7", x.visitor(0, 4), 4);
        Check.due("1 at 3", x.step(1), 4);
        Check.due("0 at 0 again", x.step(0), 1);
        Check.due("the next one of 0 is nobody", x.visitor(0, 5), -5);
        Check.due("a step is a change", x.total(13), 4);
    }

    private static void go() {
        NudgeLocks x = new NudgeLocks();
        Check.due("go(-1)", x.go(-1), -1);
        Check.due("go(6)", x.go(6), -1);
        Check.due("go(0) inside", x.go(0), 2);
        Check.due("go(0) away", x.go(0), 2);
        Check.due("stage", x.visitor(0, 0), 0);
        x.go(0);
        Check.due("go(1) up to a look", x.go(1), 3);
        Check.due("its stage", x.visitor(1, 0), 3);
        int states = x.total(13);
        Check.due("go(1) would look", x.go(1), -5);
        Check.due("NONE records nothing", x.total(13), states);
        Check.due("NONE counts nothing", x.visitor(1, 2), 0);
        Check.due("go(0) through 7", x.go(0), 2);
        Check.due("go(1) inside", x.go(1), 1);
        Check.due("one state a call", x.total(13), 4);
        Check.due("undo", x.undo(), 3);
        Check.due("1 waits again", x.visitor(1, 0), 3);
        x = new NudgeLocks();
        x.go(0);
        x.step(1);
        x.step(1);
        Check.due("go(0) stops at 6", x.go(0), 2);
        Check.due("its stage", x.visitor(0, 0), 6);
        Check.due("go(0) would look", x.go(0), -5);
        Check.due("go(1) from 2", x.go(1), 1);
        Check.due("go(0) from 6", x.go(0), 2);
        for (int kind = 1; kind < 4; kind++) {
            x = new NudgeLocks();
            x.build(kind);
            Check.due("go(5) in, kind " + kind, x.go(5), kind == 1 ? 3 : 2);
            Check.due("go(4) waits, kind " + kind, x.go(4), kind == 1 ? 2 : 1);
            Check.due("go(4) would look, kind " + kind, x.go(4), -5);
            Check.due("go(5) out, kind " + kind, x.go(5), 1);
            Check.due("go(4) in, kind " + kind, x.go(4), 1);
        }
    }

    private static void draw() {
        NudgeLocks x = new NudgeLocks();
        int[][] wrong = {{0, 1}, {64, 1}, {-1, 1}, {1, 0}, {1, 201}, {1, -1}, {Integer.MIN_VALUE, 5}, {63, 1 << 30}};
        for (int[] w : wrong) {
            Check.due("draw(" + w[0] + ", " + w[1] + ")", x.draw(w[0], w[1]), -2);
        }
        Check.due("nothing was recorded", x.total(13), 0);
        Check.due("x is as at first", x.total(12), 1);
        Check.due("draw(16, 1)", x.draw(16, 1), 0);
        Check.due("x after one lot", x.total(12), 1103527590);
        Check.due("it was 4", x.visitor(4, 0), 1);
        Check.due("draw(16, 200)", x.draw(16, 200), 50);
        Check.due("steps of 4", x.visitor(4, 1), 201);
        Check.due("visits of 4", x.visitor(4, 3), 50);
        Check.due("two states", x.total(13), 2);
        Check.due("undo", x.undo(), 1);
        Check.due("x is undone", x.total(12), 1103527590);
        x.draw(16, 3);
        Check.due("visits of this call alone", x.draw(16, 8), 2);
        Check.due("visits of all", x.total(7), 3);
        Check.due("draw(1, 4)", x.draw(1, 4), 1);
        Check.due("it was 0", x.visitor(0, 1), 4);
    }

    private static void drawOfSets() {
        // From x = 1 the quotients by 65536 are 16838, 5758, 10113, 17515, 31051, 5627, 23010, 7419, 16212, 4086.
        NudgeLocks x = new NudgeLocks();
        x.build(3);
        // Modulo 3: 2 1 0 1 1 2 0 0 0 0, so the visitors are 5 3 1 3 3 5 1 1 1 1: 3 comes back, 5 gets in, 1 looks.
        Check.due("draw(42, 10)", x.draw(42, 10), 1);
        Check.due("steps of 5", x.visitor(5, 1), 2);
        Check.due("steps of 3", x.visitor(3, 1), 3);
        Check.due("steps of 1", x.visitor(1, 1), 5);
        Check.due("5 is inside", x.total(1), 5);
        Check.due("visits of 3", x.visitor(3, 3), 1);
        Check.due("looks of 1", x.visitor(1, 2), 4);
        Check.due("looks of all", x.total(6), 4);
        NudgeLocks z = new NudgeLocks();
        z.build(2);
        // Modulo 6: 2 4 3 1 1 5 0 3 0 0.
        z.draw(63, 10);
        int[] steps = {3, 2, 1, 2, 1, 1};
        for (int v = 0; v < 6; v++) {
            Check.due("steps of " + v + " of all six", z.visitor(v, 1), steps[v]);
        }
        NudgeLocks y = new NudgeLocks();
        y.shuffle(2147483647);
        Check.due("draw(63, 1) from the greatest x", y.draw(63, 1), 0);
        Check.due("x then", y.total(12), (int) ((2147483647L * 1103515245L + 12345L) % 2147483648L));
        Check.due("6 in the set", y.visitor(y.total(12) / 65536 % 6, 1), 1);
    }

    private static void shuffle() {
        NudgeLocks x = new NudgeLocks();
        Check.due("shuffle(-1)", x.shuffle(-1), -2);
        Check.due("shuffle(MIN)", x.shuffle(Integer.MIN_VALUE), -2);
        Check.due("shuffle(1)", x.shuffle(1), -5);
        Check.due("nothing was recorded", x.total(13), 0);
        Check.due("shuffle(0)", x.shuffle(0), 1);
        Check.due("shuffle(0) again", x.shuffle(0), -5);
        Check.due("shuffle(MAX)", x.shuffle(Integer.MAX_VALUE), 0);
        Check.due("shuffle(5)", x.shuffle(5), Integer.MAX_VALUE);
        Check.due("x", x.total(12), 5);
        Check.due("three states", x.total(13), 3);
        Check.due("undo", x.undo(), 2);
        Check.due("x is undone", x.total(12), Integer.MAX_VALUE);
    }

    private static void perform() {
        NudgeLocks x = new NudgeLocks();
        type(x, "2(ab)3(c2d)f");
        Check.due("perform()", x.perform(), 14);
        int[] steps = {2, 2, 3, 6, 0, 1};
        for (int v = 0; v < 6; v++) {
            Check.due("steps of " + v, x.visitor(v, 1), steps[v]);
        }
        // a b a b: 0 is inside, 1 behind it; then c d d: 3 comes into the line while 2 is only at 1; then c: 2 comes.
        Check.due("first in line", x.inLine(0), 0);
        Check.due("second in line", x.inLine(1), 1);
        Check.due("third in line", x.inLine(2), 3);
        Check.due("fourth in line", x.inLine(3), 2);
        Check.due("the text stays", x.total(14), 12);
        Check.due("one change", x.total(13), 1);
        Check.due("perform() again", x.perform(), 14);
        Check.due("two changes", x.total(13), 2);
        x.undo();
        Check.due("undo of one", x.total(5), 14);
        x.undo();
        Check.due("undo of both", x.total(5), 0);
        NudgeLocks y = new NudgeLocks();
        type(y, "(a)9f");
        Check.due("brackets without a digit", y.perform(), 10);
        y.clearText();
        type(y, "((((((((((((((((((((((((((((2a))))))))))))))))))))))))))))");
        Check.due("28 brackets deep", y.perform(), 2);
    }

    private static void performFaults() {
        String[] texts = {
            "", "2", "a2", "22a", "(", "()", ")", "a)", "(a", "(a))", "(a)b)", "1a", "0", "g", "A", "a b", "2)", "(2)",
            "a(b(c)", "aa!", "a*", "'", "`", "{", "(a):", "((((((", "(a2)", "a()", "ab(c2(d)e)", "9(9(9(3ag", "2(a(", "a\u0161", "\u0000",
        };
        int[] faults = {
            0, 1, 2, 1, 1, 1, 0, 1, 2, 3, 4, 0, 0, 0, 0, 1, 1, 2,
            6, 2, 1, 0, 0, 0, 3, 6, 3, 2, NO_FAULT, 8, 4, 1, 0,
        };
        for (int i = 0; i < texts.length; i++) {
            NudgeLocks x = new NudgeLocks();
            type(x, texts[i]);
            int want = faults[i] == NO_FAULT ? 6 : -100 - faults[i];
            Check.due("perform() of '" + texts[i] + "'", x.perform(), want);
            Check.due("states then", x.total(13), want < 0 ? 0 : 1);
            Check.due("steps then", x.total(5), Math.max(want, 0));
        }
        NudgeLocks x = new NudgeLocks();
        for (int i = 0; i < 60; i++) {
            x.type('(');
        }
        Check.due("60 brackets", x.perform(), -160);
        x.clearText();
        for (int i = 0; i < 60; i++) {
            x.type('9');
        }
        Check.due("60 digits", x.perform(), -101);
        x.clearText();
        for (int i = 0; i < 60; i++) {
            x.type('e');
        }
        Check.due("60 letters", x.perform(), 60);
    }

    private static final int NO_FAULT = -1;

    private static void performFull() {
        String[] texts = {
            "4(5(5(5(4a))))", "4(5(5(5(4a))))b", "b4(5(5(5(4a))))", "9(9(9(2a)))9(9(6a))", "9(9(9(2a)))9(9(7a))",
            "9(9(9(3a)))", "4(5(5(5(4a))))2(a)", "9(".repeat(19) + "9a" + ")".repeat(19),
            "2(4(5(5(5(2a)))))(f", "9(9(9(3a)))g", "4(5(5(5(3a))))4(5(5(5a)))",
        };
        int[] wants = {2000, -3, -3, 1944, -3, -3, -3, -3, -119, -111, 2000};
        for (int i = 0; i < texts.length; i++) {
            NudgeLocks x = new NudgeLocks();
            type(x, texts[i]);
            Check.due("perform() of '" + texts[i] + "'", x.perform(), wants[i]);
            Check.due("states then", x.total(13), wants[i] < 0 ? 0 : 1);
            Check.due("steps then", x.total(5), Math.max(wants[i], 0));
        }
    }

    private static void finish() {
        NudgeLocks x = new NudgeLocks();
        Check.due("finish() with all away", x.finish(), -5);
        Check.due("nothing was recorded", x.total(13), 0);
        x.build(2);
        x.step(3);
        x.step(1);
        x.step(0);
        // 3 has the ticket 0, 1 has 1, 0 has 2. Rounds: 0 look, 1 look, 3 in; look, look, out; look, in; look, out; in; out.
        Check.due("finish()", x.finish(), 12);
        Check.due("looks", x.total(6), 6);
        Check.due("looks of 0", x.visitor(0, 2), 4);
        Check.due("looks of 1", x.visitor(1, 2), 2);
        Check.due("visits", x.total(7), 3);
        Check.due("all are away", x.total(3), 0);
        Check.due("one change", x.total(13), 4);
        Check.due("undo", x.undo(), 3);
        Check.due("three are back", x.total(3), 3);
        x = new NudgeLocks();
        for (int v = 5; v >= 0; v--) {
            x.step(v);
        }
        // By their numbers: 0 comes first.
        x.finish();
        Check.due("looks of 0 in a row of six", x.visitor(0, 2), 0);
        Check.due("visits in a row of six", x.total(7), 6);
    }

    private static void errorsChangeNothing() {
        NudgeLocks x = new NudgeLocks();
        x.step(2);
        x.step(2);
        type(x, "ab)");
        int before = x.total(5) + 1000 * x.total(13) + 100000 * x.total(3);
        x.build(7);
        x.build(1);
        x.step(9);
        x.go(-3);
        x.draw(0, 9);
        x.shuffle(-9);
        x.shuffle(1);
        x.perform();
        x.restore();
        Check.due("steps, states and visitors", x.total(5) + 1000 * x.total(13) + 100000 * x.total(3), before);
        Check.due("the kind", x.total(0), 0);
        Check.due("x", x.total(12), 1);
        Check.due("the text", x.total(14), 3);
    }
}
