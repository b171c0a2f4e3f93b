/** The sentences of VISITORS and LOCKS, each with a test of its own. */
final class BoundsOfLocks {
    private BoundsOfLocks() {
    }

    static void run() {
        sixVisitors();
        allAwayAtFirst();
        allOfItAtOnce();
        looks();
        inside();
        visits();
        kindAtFirst();
        nudgesAtFirst();
        nudgesBefore();
        nudgesBehind();
        watchingAtFirst();
        watching();
        ticketsAtFirst();
        tickets();
        grabbing();
    }

    private static void sixVisitors() {
        Doc.says("VISITORS", "There are 6 visitors, numbered from 0.");
        for (int v = 0; v < 6; v++) {
            NudgeLocks x = new NudgeLocks();
            Check.due("step(" + v + ")", x.step(v), 1);
            Check.due("visitor(" + v + ", 0)", x.visitor(v, 0), 1);
            Check.due("go(" + v + ")", x.go(v), 1);
            Check.due("wouldLook(" + v + ")", x.wouldLook(v), 0);
            Check.due("wouldTouch(" + v + ")", x.wouldTouch(v), 0);
            Check.due("total(3)", x.total(3), 1);
        }
        NudgeLocks x = new NudgeLocks();
        for (int n : Lead.NO_VISITORS) {
            Check.due("step(" + n + ")", x.step(n), -1);
            Check.due("go(" + n + ")", x.go(n), -1);
            Check.due("visitor(" + n + ", 0)", x.visitor(n, 0), -1);
            Check.due("wouldLook(" + n + ")", x.wouldLook(n), -1);
            Check.due("wouldTouch(" + n + ")", x.wouldTouch(n), -1);
            Check.due("orders(" + n + ", 5, 0)", x.orders(n, 5, 0), -1);
            Check.due("orders(0, " + n + ", 0)", x.orders(0, n, 0), -1);
        }
    }

    private static void allAwayAtFirst() {
        Doc.says("VISITORS", "Each one is at a stage; at first all are at the stage 0 (away).");
        NudgeLocks x = new NudgeLocks();
        for (int v = 0; v < 6; v++) {
            Check.due("visitor(" + v + ", 0)", x.visitor(v, 0), 0);
        }
        Check.due("total(3)", x.total(3), 0);
    }

    private static void allOfItAtOnce() {
        Doc.says("VISITORS", "With a step a visitor does what its stage tells, all of it at once.");
        NudgeLocks x = Lead.at(0, 1, 3, 0);
        x.go(2);
        x.step(3);
        Check.due("one ahead after one step", x.visitor(3, 6), 2);
        Check.due("tail after it", x.total(2), 3);
        Check.due("stage after it", x.visitor(3, 0), 2);
        x = Lead.at(1, 4, 3, 0);
        x.step(3);
        Check.due("the card that 3 had", x.card(3), 0);
        Check.due("the card that it has", x.visitor(3, 7), 6);
        Check.due("the stage then", x.visitor(3, 0), 0);
    }

    private static void looks() {
        Doc.says("VISITORS", "A step with which the visitor stays at its stage is a look.");
        int[][] kindsAndStages = {{0, 3}, {0, 6}, {1, 3}, {2, 3}, {3, 3}};
        for (int[] k : kindsAndStages) {
            String name = " at the kind " + k[0] + " and the stage " + k[1];
            NudgeLocks x = Lead.at(k[0], k[1], 4, 1);
            int steps = x.visitor(4, 1);
            Check.due("step" + name, x.step(4), k[1]);
            Check.due("looks" + name, x.visitor(4, 2), 1);
            Check.due("steps" + name, x.visitor(4, 1), steps + 1);
            x.step(4);
            Check.due("two looks" + name, x.visitor(4, 2), 2);
            Check.due("looks of the other one" + name, x.visitor(1, 2), 0);
            Check.due("looks of all" + name, x.total(6), 2);
        }
        for (int kind = 0; kind < 4; kind++) {
            for (int stage : Lead.STAGES[kind]) {
                boolean waits = stage == 3 || stage == 6;
                NudgeLocks x = Lead.at(kind, stage, 4, 1);
                x.step(4);
                Check.due("looks after a step at the kind " + kind + " and the stage " + stage, x.visitor(4, 2), waits ? 1 : 0);
            }
        }
        NudgeLocks x = Lead.at(0, 3, 4, 1);
        x.go(1);
        Check.due("a step with which it gets in", x.step(4), 4);
        Check.due("is no look", x.visitor(4, 2), 0);
    }

    private static void inside() {
        Doc.says("VISITORS", "A visitor at the stage 4 is inside.");
        for (int kind = 0; kind < 4; kind++) {
            for (int stage : Lead.STAGES[kind]) {
                if (stage == 2 || stage == 3) {
                    continue;
                }
                NudgeLocks x = Lead.at(kind, stage, 5, 2);
                Check.due("total(1) with one at the stage " + stage + ", kind " + kind, x.total(1), stage == 4 ? 5 : -5);
            }
        }
        for (int kind = 0; kind < 4; kind++) {
            NudgeLocks x = Lead.at(kind, 3, 5, 2);
            Check.due("total(1) with one behind, kind " + kind, x.total(1), 2);
        }
    }

    private static void visits() {
        Doc.says("VISITORS", "A visit is counted when a visitor comes back to the stage 0.");
        int[] stepsAlone = {4, 4, 3, 3};
        for (int kind = 0; kind < 4; kind++) {
            NudgeLocks x = Lead.lock(kind);
            for (int i = 1; i < stepsAlone[kind]; i++) {
                x.step(5);
                Check.due("visits after the step " + i + ", kind " + kind, x.visitor(5, 3), 0);
            }
            x.step(5);
            Check.due("visits when it is back, kind " + kind, x.visitor(5, 3), 1);
            Check.due("visits of all, kind " + kind, x.total(7), 1);
            x.step(5);
            Check.due("visits after it left again, kind " + kind, x.visitor(5, 3), 1);
        }
        NudgeLocks x = Lead.at(0, 7, 5, 2);
        Check.due("visits at the stage 7", x.visitor(5, 3), 0);
        x.step(5);
        Check.due("visits when it is back from there", x.visitor(5, 3), 1);
    }

    private static void kindAtFirst() {
        Doc.says("LOCKS", "There are four kinds of locks; a lock of the kind 0 is there at first.");
        NudgeLocks x = new NudgeLocks();
        Check.due("total(0)", x.total(0), 0);
        for (int kind = 0; kind < 4; kind++) {
            Check.due("build(" + kind + ")", x.build(kind), Math.max(kind - 1, 0));
            Check.due("total(0)", x.total(0), kind);
        }
        Check.due("build(4)", x.build(4), -1);
    }

    private static void nudgesAtFirst() {
        Doc.saysNothingToTest("LOCKS", "Kind 0, nudges.");
        Doc.says("LOCKS", "There is a tail (a visitor or nobody; nobody at first)");
        NudgeLocks x = new NudgeLocks();
        Check.due("total(2)", x.total(2), -5);
        x.step(0);
        Check.due("total(2) with one at the stage 1", x.total(2), -5);
        x.step(0);
        Check.due("total(2) with the visitor 0 as the tail", x.total(2), 0);

        Doc.says("LOCKS", "each visitor has a next one (a visitor or nobody; nobody at first)");
        for (int v = 0; v < 6; v++) {
            Check.due("visitor(" + v + ", 5)", new NudgeLocks().visitor(v, 5), -5);
        }
        x.go(1);
        Check.due("the visitor 1 as a next one", x.visitor(0, 5), 1);
        NudgeLocks y = Lead.at(0, 3, 0, 5);
        Check.due("the visitor 0 as a next one", y.visitor(5, 5), 0);

        Doc.says("LOCKS", "a flag (down at first)");
        for (int v = 0; v < 6; v++) {
            Check.due("visitor(" + v + ", 9)", new NudgeLocks().visitor(v, 9), 0);
        }

        Doc.says("LOCKS", "and one ahead (nobody unless it is at the stages 2 and 3).");
        for (int stage = 0; stage < 8; stage++) {
            NudgeLocks z = Lead.at(0, stage, 3, 0);
            Check.due("visitor(3, 6) at the stage " + stage, z.visitor(3, 6), stage == 2 || stage == 3 ? 0 : -5);
        }
        NudgeLocks z = Lead.at(0, 3, 3, 0);
        z.go(0);
        z.step(3);
        Check.due("one ahead when it is inside", z.visitor(3, 6), -5);
        Lead.steps(z, 3, 3);
        Check.due("one ahead when it is back", z.visitor(3, 6), -5);
        Doc.saysNothingToTest("LOCKS", "The stages:");
    }

    private static void nudgesBefore() {
        Doc.says("LOCKS", "0: its next one is nobody, and its flag is up then; stage 1.");
        NudgeLocks x = Lead.at(0, 3, 3, 0);
        x.go(0);
        Check.due("the next one of one who went", x.visitor(0, 5), 3);
        Check.due("the flag of one who was nudged", x.visitor(3, 9), 0);
        Check.due("a step at the stage 0", x.step(0), 1);
        Check.due("the next one then", x.visitor(0, 5), -5);
        Check.due("the flag then", x.visitor(0, 9), 1);
        x.go(3);
        x.finish();
        Check.due("the flag is down from the last visit", x.visitor(3, 9), 0);
        x.step(3);
        Check.due("the flag is up again", x.visitor(3, 9), 1);

        Doc.says("LOCKS", "1: the one ahead is who is the tail, and the visitor is the tail then; "
                + "if there is nobody ahead, stage 4, otherwise stage 2.");
        x = Lead.at(0, 1, 5, 0);
        Check.due("with nobody ahead", x.step(5), 4);
        Check.due("the tail then", x.total(2), 5);
        x.step(0);
        Check.due("with one ahead", x.step(0), 2);
        Check.due("the one ahead", x.visitor(0, 6), 5);
        Check.due("the tail then", x.total(2), 0);
        x.step(1);
        Check.due("with two ahead", x.step(1), 2);
        Check.due("the one ahead is the tail, not the first one", x.visitor(1, 6), 0);
        Check.due("the next one of the tail is not yet known", x.visitor(0, 5), -5);

        Doc.says("LOCKS", "2: the next one of the one ahead is the visitor then; stage 3.");
        Check.due("a step at the stage 2", x.step(1), 3);
        Check.due("the next one of the one ahead", x.visitor(0, 5), 1);
        Check.due("the next one of the first one", x.visitor(5, 5), -5);
        Check.due("a step at the stage 2", x.step(0), 3);
        Check.due("the next one of the first one", x.visitor(5, 5), 0);

        Doc.says("LOCKS", "3: if its flag is down, stage 4.");
        x = Lead.at(0, 3, 2, 4);
        Check.due("with the flag up", x.step(2), 3);
        Check.due("the flag is up", x.visitor(2, 9), 1);
        x.go(4);
        Check.due("the flag is down", x.visitor(2, 9), 0);
        Check.due("with the flag down", x.step(2), 4);
    }

    private static void nudgesBehind() {
        Doc.says("LOCKS", "4: if its next one is nobody, stage 5, otherwise stage 7.");
        NudgeLocks x = Lead.at(0, 4, 5, 0);
        Check.due("with nobody next", x.step(5), 5);
        x = Lead.at(0, 4, 5, 0);
        x.go(0);
        Check.due("with the visitor 0 next", x.step(5), 7);
        x = Lead.at(0, 4, 5, 0);
        Lead.steps(x, 0, 0);
        Check.due("with one behind who has not made itself known", x.step(5), 5);

        Doc.says("LOCKS", "5: if the visitor is the tail, nobody is the tail then; stage 0; otherwise stage 6.");
        x = Lead.at(0, 5, 5, 0);
        Check.due("the tail", x.total(2), 5);
        Check.due("as the tail", x.step(5), 0);
        Check.due("the tail then", x.total(2), -5);
        x = Lead.at(0, 5, 5, 0);
        Lead.steps(x, 0, 0);
        Check.due("with another one as the tail", x.step(5), 6);
        Check.due("the tail stays", x.total(2), 0);
        x = Lead.at(0, 5, 5, 0);
        x.go(0);
        Check.due("the next one is known already", x.visitor(5, 5), 0);
        Check.due("with another one as the tail who is known", x.step(5), 6);

        Doc.says("LOCKS", "6: if its next one is somebody, stage 7.");
        Check.due("with somebody next", x.step(5), 7);
        x = Lead.at(0, 6, 5, 0);
        Check.due("with nobody next", x.step(5), 6);
        x.step(0);
        Check.due("with the visitor 0 next", x.step(5), 7);

        Doc.says("LOCKS", "7: the flag of its next one is down then; stage 0.");
        x = Lead.at(0, 7, 5, 0);
        x.go(3);
        Check.due("the flag of the next one ahead of it", x.visitor(0, 9), 1);
        Check.due("a step at the stage 7", x.step(5), 0);
        Check.due("the flag of the next one", x.visitor(0, 9), 0);
        Check.due("the flag of the one behind that", x.visitor(3, 9), 1);
        Check.due("the own flag", x.visitor(5, 9), 1);
        Check.due("the next one stays", x.visitor(5, 5), 0);
        Check.due("the tail stays", x.total(2), 3);
    }

    private static void watchingAtFirst() {
        Doc.saysNothingToTest("LOCKS", "Kind 1, watching.");
        Doc.says("LOCKS", "There are 7 cards, numbered from 0, each with a flag (down at first).");
        NudgeLocks x = Lead.lock(1);
        for (int card = 0; card < 7; card++) {
            Check.due("card(" + card + ")", x.card(card), 0);
        }
        Check.due("card(-1)", x.card(-1), -1);
        Check.due("card(7)", x.card(7), -1);

        Doc.says("LOCKS", "At first the visitor k has the card k; the tail is the card 6.");
        for (int v = 0; v < 6; v++) {
            Check.due("visitor(" + v + ", 7)", x.visitor(v, 7), v);
        }
        Check.due("total(2)", x.total(2), 6);

        Doc.says("LOCKS", "A visitor at the stages 3 and 4 has a card that it watches.");
        for (int stage : Lead.STAGES[1]) {
            NudgeLocks y = Lead.at(1, stage, 0, 5);
            int want = stage == 3 ? 5 : stage == 4 ? 6 : -5;
            Check.due("visitor(0, 6) at the stage " + stage, y.visitor(0, 6), want);
        }
        NudgeLocks y = Lead.at(1, 4, 0, 5);
        y.step(0);
        Check.due("visitor(0, 6) when it is back", y.visitor(0, 6), -5);
    }

    private static void watching() {
        Doc.says("LOCKS", "0: the flag of its card is up then; stage 1.");
        for (int v = 0; v < 6; v++) {
            NudgeLocks x = Lead.lock(1);
            Check.due("step(" + v + ")", x.step(v), 1);
            for (int card = 0; card < 7; card++) {
                Check.due("card(" + card + ") after a step of " + v, x.card(card), card == v ? 1 : 0);
            }
            Check.due("the tail", x.total(2), 6);
        }
        NudgeLocks x = Lead.lock(1);
        x.go(2);
        x.go(2);
        x.step(2);
        Check.due("the flag of the card 6, which 2 has now", x.card(6), 1);
        Check.due("the flag of the card 2, which it had", x.card(2), 0);

        Doc.says("LOCKS", "1: it watches the card that is the tail, and its own card is the tail then; stage 3.");
        x = Lead.at(1, 1, 5, 0);
        Check.due("a step at the stage 1", x.step(5), 3);
        Check.due("the card that it watches", x.visitor(5, 6), 6);
        Check.due("the tail", x.total(2), 5);
        Check.due("its own card", x.visitor(5, 7), 5);
        Lead.steps(x, 0, 0);
        Check.due("the card that the second one watches", x.visitor(0, 6), 5);
        Check.due("the tail", x.total(2), 0);

        Doc.says("LOCKS", "3: if the flag of the card that it watches is down, stage 4.");
        Check.due("with the card 5 up", x.step(0), 3);
        Check.due("with the card 6 down", x.step(5), 4);
        Check.due("with the card 5 still up", x.step(0), 3);
        x.step(5);
        Check.due("with the card 5 down", x.step(0), 4);

        Doc.says("LOCKS", "4: the flag of its own card is down then, and the card that it watches is its own card from "
                + "then on; stage 0.");
        Check.due("the own card's flag", x.card(0), 1);
        Check.due("a step at the stage 4", x.step(0), 0);
        Check.due("the flag of the card that it had", x.card(0), 0);
        Check.due("its own card", x.visitor(0, 7), 5);
        Check.due("the card of the one ahead", x.visitor(5, 7), 6);
        Check.due("the tail, which nobody has", x.total(2), 0);
        Check.due("the card that it watches", x.visitor(0, 6), -5);
        x.go(1);
        Check.due("the next one watches the tail, which nobody has", x.visitor(1, 6), 0);
        Check.due("and gets in", x.visitor(1, 0), 4);
    }

    private static void ticketsAtFirst() {
        Doc.saysNothingToTest("LOCKS", "Kind 2, tickets.");
        Doc.says("LOCKS", "There are a number to be given and a number to be served (both 0 at first)");
        NudgeLocks x = Lead.lock(2);
        Check.due("total(9)", x.total(9), 0);
        Check.due("total(10)", x.total(10), 0);

        Doc.says("LOCKS", "a visitor that is not away has a ticket.");
        for (int v = 0; v < 6; v++) {
            Check.due("visitor(" + v + ", 8) at first", x.visitor(v, 8), -5);
            x.step(v);
            Check.due("visitor(" + v + ", 8) at the stage 3", x.visitor(v, 8), v);
        }
        x.step(0);
        Check.due("the ticket inside", x.visitor(0, 8), 0);
        x.step(0);
        Check.due("the ticket of one who is back", x.visitor(0, 8), -5);
    }

    private static void tickets() {
        Doc.says("LOCKS", "0: its ticket is the number to be given, which becomes more by 1; stage 3.");
        NudgeLocks x = Lead.lock(2);
        Check.due("step(5)", x.step(5), 3);
        Check.due("its ticket", x.visitor(5, 8), 0);
        Check.due("given", x.total(9), 1);
        Check.due("step(0)", x.step(0), 3);
        Check.due("its ticket", x.visitor(0, 8), 1);
        Check.due("given", x.total(9), 2);
        Check.due("served", x.total(10), 0);

        Doc.says("LOCKS", "3: if its ticket is the number to be served, stage 4.");
        Check.due("with the ticket 1 while 0 is to be served", x.step(0), 3);
        Check.due("with the ticket 0", x.step(5), 4);
        Check.due("with the ticket 1 while 0 is inside", x.step(0), 3);
        Check.due("served does not change", x.total(10), 0);

        Doc.says("LOCKS", "4: the number to be served becomes more by 1; stage 0.");
        Check.due("a step at the stage 4", x.step(5), 0);
        Check.due("served", x.total(10), 1);
        Check.due("given", x.total(9), 2);
        Check.due("now with the ticket 1", x.step(0), 4);
        x.step(0);
        Check.due("served", x.total(10), 2);
        Check.due("a third ticket", x.step(0), 3);
        Check.due("it is 2", x.visitor(0, 8), 2);
    }

    private static void grabbing() {
        Doc.saysNothingToTest("LOCKS", "Kind 3, grabbing.");
        Doc.says("LOCKS", "There is a flag (down at first).");
        NudgeLocks x = Lead.lock(3);
        Check.due("total(11)", x.total(11), 0);

        Doc.says("LOCKS", "0: nothing; stage 3.");
        Check.due("step(5)", x.step(5), 3);
        Check.due("step(0)", x.step(0), 3);
        Check.due("the flag", x.total(11), 0);

        Doc.says("LOCKS", "3: if the flag is down, it is up then, and stage 4 (the flag is looked at and changed at once).");
        Check.due("with the flag down", x.step(0), 4);
        Check.due("the flag at once", x.total(11), 1);
        Check.due("with the flag up", x.step(5), 3);
        Check.due("the flag", x.total(11), 1);
        Check.due("who came first waits still", x.total(1), 0);

        Doc.says("LOCKS", "4: the flag is down then; stage 0.");
        Check.due("a step at the stage 4", x.step(0), 0);
        Check.due("the flag", x.total(11), 0);
        Check.due("now with the flag down", x.step(5), 4);
        Check.due("the flag", x.total(11), 1);
    }
}
