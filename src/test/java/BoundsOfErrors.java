/** The sentences of ERRORS, of the headings ahead of the calls, and of the 512 calls, each with a test of its own. */
final class BoundsOfErrors {
    private BoundsOfErrors() {
    }

    static void run() {
        constants();
        theFirstOfSeveral();
        noneComesLast();
        refusedChangesAtTheEdges();
        refusedChangesLater();
        refusedReadings();
        headings();
        lastCalls();
    }

    private static void constants() {
        Doc.saysNothingToTest("ERRORS", "The constants:");
        Doc.says("ERRORS", "Errors are reported by the constants below.");
        NudgeLocks x = Lead.typed("a".repeat(60));
        x.step(0);
        Check.due("UNKNOWN", x.step(6), NudgeLocks.UNKNOWN);
        Check.due("OUT_OF_RANGE", x.draw(0, 1), NudgeLocks.OUT_OF_RANGE);
        Check.due("FULL", x.type('a'), NudgeLocks.FULL);
        Check.due("NOT_POSSIBLE", x.build(0), NudgeLocks.NOT_POSSIBLE);
        Check.due("NONE", x.restore(), NudgeLocks.NONE);

        Doc.says("ERRORS", "`UNKNOWN = -1`: There is no such visitor or kind.");
        Check.due("UNKNOWN", NudgeLocks.UNKNOWN, -1);
        Check.due("no such visitor", x.visitor(6, 0), -1);
        Check.due("no such kind", x.build(4), -1);

        Doc.says("ERRORS", "`OUT_OF_RANGE = -2`: Another argument is out of its range.");
        Check.due("OUT_OF_RANGE", NudgeLocks.OUT_OF_RANGE, -2);
        Check.due("visitors", x.draw(64, 1), -2);
        Check.due("steps", x.draw(1, 0), -2);
        Check.due("number", x.shuffle(-1), -2);
        Check.due("what of a visitor", x.visitor(0, 11), -2);
        Check.due("place", x.inLine(-1), -2);
        Check.due("what of the whole", x.total(15), -2);
        Check.due("what of the orders", x.orders(0, 1, 3), -2);

        Doc.says("ERRORS", "`FULL = -3`: There is no more room.");
        Check.due("FULL", NudgeLocks.FULL, -3);
        Check.due("no room in the text", x.type('a'), -3);
        Check.due("too many steps", Lead.typed("9(9(9(9a)))").perform(), -3);

        Doc.says("ERRORS", "`NOT_POSSIBLE = -4`: This is not possible in the present state.");
        Check.due("NOT_POSSIBLE", NudgeLocks.NOT_POSSIBLE, -4);
        Check.due("a visitor is not away", x.build(1), -4);
        x.undo();
        Check.due("all are away", x.build(1), 0);

        Doc.says("ERRORS", "`NONE = -5`: There is no such thing; this is not an error.");
        Check.due("NONE", NudgeLocks.NONE, -5);
        Check.due("no ticket", x.visitor(0, 8), -5);
        Check.due("nobody in line", x.inLine(0), -5);
    }

    private static void theFirstOfSeveral() {
        Doc.says("ERRORS", "If several errors apply, the one that stands first in the @return line is returned.");
        NudgeLocks x = Lead.at(0, 3, 0, 1);
        Check.due("build: UNKNOWN, NOT_POSSIBLE", x.build(4), -1);
        Check.due("build: UNKNOWN, NOT_POSSIBLE", x.build(-1), -1);
        Check.due("visitor: UNKNOWN, OUT_OF_RANGE", x.visitor(6, 11), -1);
        Check.due("visitor: UNKNOWN, OUT_OF_RANGE", x.visitor(-1, -1), -1);
        Check.due("draw: both out of range", x.draw(0, 0), -2);
        Check.due("orders: UNKNOWN by the first visitor, OUT_OF_RANGE by what", x.orders(6, 0, 3), -1);
        Check.due("orders: UNKNOWN by the other visitor, OUT_OF_RANGE by what", x.orders(0, 6, -1), -1);
        Check.due("orders: UNKNOWN, and both are the same", x.orders(6, 6, 0), -1);
        Check.due("orders: UNKNOWN, both are the same, and what", x.orders(-1, -1, 3), -1);
        Check.due("orders: both are the same, and what", x.orders(2, 2, 3), -2);
        Check.due("perform: a fault, FULL", Lead.typed("9(9(9(9a)))(").perform(), -112);
        Check.due("perform: a fault, FULL", Lead.typed("9(9(9(9a").perform(), -108);
        Check.due("perform: a fault, FULL", Lead.typed("9(9(9(9ax)))").perform(), -108);
    }

    private static void noneComesLast() {
        Doc.says("ERRORS", "NONE is not an error; it is returned only if no error applies.");
        NudgeLocks x = new NudgeLocks();
        Check.due("visitor: UNKNOWN, nothing like it with this kind", x.visitor(6, 8), -1);
        Check.due("visitor: UNKNOWN, nobody is next", x.visitor(-1, 5), -1);
        Check.due("visitor: OUT_OF_RANGE", x.visitor(0, 11), -2);
        Check.due("inLine: OUT_OF_RANGE, nobody in line", x.inLine(-1), -2);
        Check.due("card: UNKNOWN, the kind is not 1", x.card(7), -1);
        Check.due("card: UNKNOWN, the kind is not 1", x.card(-1), -1);
        Check.due("total: OUT_OF_RANGE", x.total(15), -2);
        Check.due("shuffle: OUT_OF_RANGE", x.shuffle(-1), -2);
        Check.due("go: UNKNOWN", x.go(6), -1);
        x.build(3);
        Check.due("inLine: OUT_OF_RANGE, nobody is in line with the kind 3", x.inLine(-1), -2);
        Check.due("orders: both are the same", x.orders(0, 0, 0), -2);
    }

    /** A full history, a snapshot, a full text with a fault at its end, one inside and one behind. */
    private static void leadToTheEdge(NudgeLocks x) {
        x.build(2);
        x.step(4);
        x.keep();
        x.shuffle(77);
        Lead.steps(x, 2, 4, 2);
        Lead.type(x, "ab2(cd)" + "f".repeat(52) + "9");
    }

    private static void refusedChangesAtTheEdges() {
        Doc.says("ERRORS", "A method that returns an error or NONE changes nothing.");
        Lead.refused("build(4)", BoundsOfErrors::leadToTheEdge, x -> x.build(4), -1);
        Lead.refused("build(-1)", BoundsOfErrors::leadToTheEdge, x -> x.build(-1), -1);
        Lead.refused("build(0) with two who are not away", BoundsOfErrors::leadToTheEdge, x -> x.build(0), -4);
        Lead.refused("step(-1)", BoundsOfErrors::leadToTheEdge, x -> x.step(-1), -1);
        Lead.refused("step(6)", BoundsOfErrors::leadToTheEdge, x -> x.step(6), -1);
        Lead.refused("go(6)", BoundsOfErrors::leadToTheEdge, x -> x.go(6), -1);
        Lead.refused("go(2) with a look", BoundsOfErrors::leadToTheEdge, x -> x.go(2), -5);
        Lead.refused("draw(0, 1)", BoundsOfErrors::leadToTheEdge, x -> x.draw(0, 1), -2);
        Lead.refused("draw(64, 1)", BoundsOfErrors::leadToTheEdge, x -> x.draw(64, 1), -2);
        Lead.refused("draw(1, 0)", BoundsOfErrors::leadToTheEdge, x -> x.draw(1, 0), -2);
        Lead.refused("draw(1, 201)", BoundsOfErrors::leadToTheEdge, x -> x.draw(1, 201), -2);
        Lead.refused("shuffle(-1)", BoundsOfErrors::leadToTheEdge, x -> x.shuffle(-1), -2);
        Lead.refused("shuffle(77)", BoundsOfErrors::leadToTheEdge, x -> x.shuffle(77), -5);
        Lead.refused("perform() of a fault", BoundsOfErrors::leadToTheEdge, NudgeLocks::perform, -160);
        Lead.refused("type('a')", BoundsOfErrors::leadToTheEdge, x -> x.type('a'), -3);
    }

    private static void refusedChangesLater() {
        Lead.refused("perform() of too many", x -> {
            leadToTheEdge(x);
            Lead.write(x, "9(9(9(9a)))");
        }, NudgeLocks::perform, -3);
        Lead.refused("finish() with all away", x -> {
            leadToTheEdge(x);
            x.finish();
        }, NudgeLocks::finish, -5);
        Lead.refused("undo() of nothing", x -> {
            leadToTheEdge(x);
            for (int i = 0; i < 4; i++) {
                x.undo();
            }
        }, NudgeLocks::undo, -5);
        Lead.refused("restore() of nothing", x -> {
            x.step(1);
            Lead.type(x, "ab");
        }, NudgeLocks::restore, -5);
    }

    private static void refusedReadings() {
        Lead.refused("visitor(6, 0)", BoundsOfErrors::leadToTheEdge, x -> x.visitor(6, 0), -1);
        Lead.refused("visitor(0, 11)", BoundsOfErrors::leadToTheEdge, x -> x.visitor(0, 11), -2);
        Lead.refused("visitor(0, 8)", BoundsOfErrors::leadToTheEdge, x -> x.visitor(0, 8), -5);
        Lead.refused("inLine(-1)", BoundsOfErrors::leadToTheEdge, x -> x.inLine(-1), -2);
        Lead.refused("inLine(2)", BoundsOfErrors::leadToTheEdge, x -> x.inLine(2), -5);
        Lead.refused("card(7)", BoundsOfErrors::leadToTheEdge, x -> x.card(7), -1);
        Lead.refused("card(6)", BoundsOfErrors::leadToTheEdge, x -> x.card(6), -5);
        Lead.refused("total(15)", BoundsOfErrors::leadToTheEdge, x -> x.total(15), -2);
        Lead.refused("total(11)", BoundsOfErrors::leadToTheEdge, x -> x.total(11), -5);
        Lead.refused("wouldLook(6)", BoundsOfErrors::leadToTheEdge, x -> x.wouldLook(6), -1);
        Lead.refused("wouldTouch(6)", BoundsOfErrors::leadToTheEdge, x -> x.wouldTouch(6), -1);
        Lead.refused("orders(0, 6, 0)", BoundsOfErrors::leadToTheEdge, x -> x.orders(0, 6, 0), -1);
        Lead.refused("orders(0, 0, 0)", BoundsOfErrors::leadToTheEdge, x -> x.orders(0, 0, 0), -2);
        Lead.refused("orders(0, 1, 3)", BoundsOfErrors::leadToTheEdge, x -> x.orders(0, 1, 3), -2);
    }

    private static void headings() {
        Doc.says("ERRORS", "Ahead of the calls `build`, `step`, `go`, `draw`, `shuffle`, `perform`, `finish` the interface "
                + "says: ---- changes.");
        NudgeLocks x = Lead.typed("a");
        x.build(0);
        Check.due("states after build", x.total(13), 1);
        x.step(0);
        Check.due("states after step", x.total(13), 2);
        x.go(0);
        Check.due("states after go", x.total(13), 3);
        x.shuffle(7);
        Check.due("states after shuffle", x.total(13), 4);
        x = Lead.typed("a");
        x.draw(1, 1);
        Check.due("states after draw", x.total(13), 1);
        x.perform();
        Check.due("states after perform", x.total(13), 2);
        x.finish();
        Check.due("states after finish", x.total(13), 3);

        Doc.says("ERRORS", "Ahead of the calls `type`, `clearText` the interface says: ---- texts.");
        x.type('b');
        x.clearText();
        Check.due("states after type and clearText", x.total(13), 3);

        Doc.says("ERRORS", "Ahead of the calls `undo`, `keep`, `restore` the interface says: ---- history.");
        x.keep();
        Check.due("states after keep", x.total(13), 3);
        x.undo();
        Check.due("states after undo", x.total(13), 2);

        Doc.says("ERRORS", "Ahead of the calls `visitor`, `inLine`, `card`, `total` the interface says: ---- what there is.");
        for (int kind = 0; kind < 4; kind++) {
            NudgeLocks y = BoundsOfHistory.busy(kind);
            NudgeLocks twin = BoundsOfHistory.busy(kind);
            Lead.all(y);
            Check.holds("reading changes nothing, kind " + kind, Lead.future(y).equals(Lead.future(twin)));
        }

        Doc.says("ERRORS", "Ahead of the calls `wouldLook`, `wouldTouch`, `stepsToFinish`, `orders` the interface says: "
                + "---- what would be; nothing changes.");
        for (int kind = 0; kind < 4; kind++) {
            NudgeLocks y = BoundsOfHistory.busy(kind);
            NudgeLocks twin = BoundsOfHistory.busy(kind);
            y.keep();
            twin.keep();
            for (int v = 0; v < 6; v++) {
                y.wouldLook(v);
                y.wouldTouch(v);
                y.orders(v, (v + 1) % 6, v % 3);
            }
            y.stepsToFinish();
            Check.holds("telling what would be changes nothing, kind " + kind, Lead.future(y).equals(Lead.future(twin)));
        }
    }

    private static void lastCalls() {
        Doc.says("What it is", "An object is used for at most 512 calls after it has been made;");
        NudgeLocks x = new NudgeLocks();
        Lead.type(x, "2(4(5(5(5(2b)))))");
        for (int call = 18; call <= 511; call++) {
            Check.due("perform() as the call " + call, x.perform(), 2000);
        }
        // 494 times 2000 steps, and one visit for each four of them.
        Check.due("total(7) as the call 512", x.total(7), 494 * 500);
        NudgeLocks y = Lead.lock(2);
        Lead.type(y, "2(4(5(5(5(2b)))))");
        for (int call = 19; call <= 509; call++) {
            y.perform();
        }
        Check.due("total(5) as the call 510", y.total(5), 491 * 2000);
        // The last ticket has been drawn and not yet served when the steps are no multiple of three.
        Check.due("total(9) as the call 511", y.total(9), (491 * 2000 + 2) / 3);
        Check.due("total(8) as the call 512", y.total(8), 491 * 2000);
    }
}
