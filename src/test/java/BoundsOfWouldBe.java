/** The sentences of the promises 18 to 21, each with a test of its own. */
final class BoundsOfWouldBe {
    private static final String ORDERS = "Promise 21";

    private BoundsOfWouldBe() {
    }

    static void run() {
        wouldLook();
        wouldTouch();
        stepsToFinish();
        ordersOfBoth();
        whatIsTheSame();
        looksLeadNowhere();
        orderArguments();
        howManyStates();
        bothInside();
        stuck();
        orderAnswers();
        tooMany();
    }

    private static void wouldLook() {
        Doc.says("Promise 18", "Tells whether the next step of a visitor would be a look.");
        for (int kind = 0; kind < 4; kind++) {
            for (int stage : Lead.STAGES[kind]) {
                NudgeLocks x = Lead.at(kind, stage, 5, 0);
                int told = x.wouldLook(5);
                x.step(5);
                Check.due("looks at the kind " + kind + " and the stage " + stage, x.visitor(5, 2), told);
            }
        }
        Doc.saysNothingToTest("Promise 18", "`visitor`: a visitor");

        Doc.says("Promise 18", "Returns 1 if it would, otherwise 0;");
        for (int kind = 0; kind < 4; kind++) {
            for (int stage : Lead.STAGES[kind]) {
                NudgeLocks x = Lead.at(kind, stage, 5, 0);
                int want = stage == 3 || stage == 6 ? 1 : 0;
                Check.due("wouldLook(5) at the kind " + kind + " and the stage " + stage, x.wouldLook(5), want);
            }
            NudgeLocks x = Lead.at(kind, 3, 5, 0);
            x.go(0);
            Check.due("wouldLook(5) when it may come in, kind " + kind, x.wouldLook(5), 0);
        }
        NudgeLocks x = Lead.at(0, 6, 5, 0);
        x.step(0);
        Check.due("wouldLook(5) at the stage 6 when the next one is known", x.wouldLook(5), 0);

        Doc.says("Promise 18", "UNKNOWN.");
        for (int n : Lead.NO_VISITORS) {
            Lead.refused("wouldLook(" + n + ")", y -> y.step(3), y -> y.wouldLook(n), -1);
        }
    }

    private static void wouldTouch() {
        Doc.says("Promise 19", "Tells how many far touches the next step of a visitor would cost.");
        for (int kind = 0; kind < 4; kind++) {
            for (int stage : Lead.STAGES[kind]) {
                NudgeLocks x = Lead.at(kind, stage, 5, 0);
                int before = x.visitor(5, 4);
                int told = x.wouldTouch(5);
                x.step(5);
                Check.due("touches at the kind " + kind + " and the stage " + stage, x.visitor(5, 4) - before, told);
            }
        }
        Doc.saysNothingToTest("Promise 19", "`visitor`: a visitor");

        Doc.says("Promise 19", "Returns how many;");
        int[][] wants = {{0, 1, 1, 0, 0, 1, 0, 1}, {0, 1, 1, 0}, {1, 1, 1}, {0, 1, 1}};
        for (int kind = 0; kind < 4; kind++) {
            for (int i = 0; i < wants[kind].length; i++) {
                NudgeLocks x = Lead.at(kind, Lead.STAGES[kind][i], 0, 5);
                String name = "wouldTouch(0) at the kind " + kind + " and the stage " + Lead.STAGES[kind][i];
                Check.due(name, x.wouldTouch(0), wants[kind][i]);
                Check.due(name + " again", x.wouldTouch(0), wants[kind][i]);
            }
            NudgeLocks x = Lead.at(kind, 3, 0, 5);
            x.go(5);
            Check.due("wouldTouch(0) when it may come in, kind " + kind, x.wouldTouch(0), kind == 0 ? 0 : 1);
        }

        Doc.says("Promise 19", "UNKNOWN.");
        for (int n : Lead.NO_VISITORS) {
            Lead.refused("wouldTouch(" + n + ")", y -> y.step(3), y -> y.wouldTouch(n), -1);
        }
    }

    private static void stepsToFinish() {
        Doc.says("Promise 20", "Tells how many steps finish() would take.");
        for (int kind = 0; kind < 4; kind++) {
            for (int drawn = 1; drawn < 40; drawn++) {
                NudgeLocks x = Lead.lock(kind);
                x.draw(63, drawn);
                x.step(drawn % 6);
                int told = x.stepsToFinish();
                Check.due("finish() of the kind " + kind + " after " + drawn, x.finish(), told == 0 ? -5 : told);
            }
        }

        Doc.says("Promise 20", "Returns how many,");
        int[] alone = {3, 3, 2, 2};
        for (int kind = 0; kind < 4; kind++) {
            NudgeLocks x = Lead.lock(kind);
            x.step(5);
            Check.due("stepsToFinish() with one, kind " + kind, x.stepsToFinish(), alone[kind]);
            Check.due("stepsToFinish() again, kind " + kind, x.stepsToFinish(), alone[kind]);
            Check.due("steps so far, kind " + kind, x.total(5), 1);
            Check.due("states, kind " + kind, x.total(13), 2);
        }
        NudgeLocks x = Lead.lock(2);
        Lead.steps(x, 2, 0);
        Check.due("stepsToFinish() with two tickets", x.stepsToFinish(), 6);

        Doc.says("Promise 20", "0 if all are away.");
        for (int kind = 0; kind < 4; kind++) {
            NudgeLocks y = Lead.lock(kind);
            Check.due("stepsToFinish() at first, kind " + kind, y.stepsToFinish(), 0);
            y.go(4);
            Check.holds("stepsToFinish() with one inside, kind " + kind, y.stepsToFinish() > 0);
            y.finish();
            Check.due("stepsToFinish() at the end, kind " + kind, y.stepsToFinish(), 0);
        }
    }

    private static void dueOrders(String name, NudgeLocks x, int one, int other, int... wants) {
        for (int what = 0; what < 3; what++) {
            Check.due("orders(" + one + ", " + other + ", " + what + ") " + name, x.orders(one, other, what), wants[what]);
            Check.due("orders(" + other + ", " + one + ", " + what + ") " + name, x.orders(other, one, what), wants[what]);
        }
    }

    private static void ordersOfBoth() {
        Doc.says(ORDERS, "Tells about all orders in which two visitors can make steps, while all others make none:");
        NudgeLocks x = Lead.at(3, 4, 3, 0);
        // Each of both comes to the stage 3 and looks there, as 3 makes no step: 2 times 2.
        dueOrders("while another one is inside", x, 0, 1, 4, 0, 1);
        x = Lead.lock(3);
        Lead.steps(x, 3);
        // 3 could get in and does not: each of both at 0, 3, 4 or back, but for both at 4.
        dueOrders("while another one waits", x, 0, 1, 15, 0, 0);

        Doc.says(ORDERS, "from now on, each of both makes steps until it comes back to the stage 0 (one that is away now "
                + "makes one visit).");
        dueOrders("with both away, kind 3", Lead.lock(3), 0, 5, 15, 0, 0);
        // None drew, one drew: 1 and 3 each; both drew in either order: 4 each; both back: 1.
        dueOrders("with both away, kind 2", Lead.lock(2), 0, 5, 16, 0, 0);
        x = Lead.at(3, 4, 0, 5);
        // 0 is inside, and 5 at 0 or 3; 0 is back, and 5 at 0, 3, 4 or back.
        dueOrders("with one inside, who only comes out", x, 0, 5, 6, 0, 0);
        x = Lead.at(2, 3, 0, 5);
        // 5 inside and 0 waiting; 5 back and 0 waiting, inside, back.
        dueOrders("with one inside and one waiting, kind 2", x, 0, 5, 4, 0, 0);
        x = Lead.at(0, 5, 0, 5);
        x.go(0);
        Check.due("one who is back already makes a visit of its own", x.orders(0, 5, 0), new NudgeLocks().orders(0, 5, 0));
    }

    private static void whatIsTheSame() {
        Doc.says(ORDERS, "Two states are the same if the stages, next ones, flags, ones ahead, cards, tickets, the tail and "
                + "the numbers are the same,");
        // Each at 0 or 1: 4; one in line and the other at 0 or 1: 2 for each; both in line at 2 or 3: 4 for each order.
        NudgeLocks x = Lead.at(0, 4, 5, 0);
        dueOrders("behind one inside: the tail and the ones ahead tell both orders apart", x, 2, 3, 20, 0, 2);
        dueOrders("kind 0", Lead.lock(0), 0, 1, 43, 0, 0);
        // Each at 0 or 1: 4; one waits, the other at 0 or 1: 2 for each; both wait in either order: 2.
        dueOrders("behind one inside: the cards tell both orders apart", Lead.at(1, 4, 5, 0), 2, 3, 10, 0, 2);
        dueOrders("kind 1", Lead.lock(1), 0, 1, 26, 0, 0);
        // None drew, one drew: 1 and 1 each; both drew in either order: 2.
        dueOrders("behind one inside: the tickets tell both orders apart", Lead.at(2, 4, 5, 0), 2, 3, 5, 0, 2);
        // Both wait: there is but one such state, whoever came first.
        dueOrders("behind one inside, kind 3: nothing tells the orders apart", Lead.at(3, 4, 5, 0), 2, 3, 4, 0, 1);

        Doc.says(ORDERS, "and if the same of both have come back (counts and x do not matter).");
        // Without tickets, who is back and who has not yet come are both away: what is given and served is 1 and 1 for
        // both, but one of them still comes. 0 back and 5 away is not 5 back and 0 away.
        dueOrders("kind 2", Lead.lock(2), 0, 5, 16, 0, 0);
        NudgeLocks counted = Lead.lock(2);
        for (int i = 0; i < 12; i++) {
            counted.step(0);
            counted.step(0);
            counted.step(0);
        }
        counted.draw(32, 3);
        counted.shuffle(777);
        dueOrders("kind 2, after many steps and with another x", counted, 0, 5, 16, 0, 0);
    }

    private static void looksLeadNowhere() {
        Doc.says(ORDERS, "A look leads to the same state.");
        for (int kind = 0; kind < 4; kind++) {
            NudgeLocks x = Lead.at(kind, 3, 5, 0);
            x.go(3);
            dueOrders("with two who can only look, kind " + kind, x, 5, 3, 1, 0, 1);
        }
        NudgeLocks x = Lead.at(0, 6, 5, 0);
        // Only 5 could nudge 4, but 5 looks for 0, who makes no step; 4 comes to 1, 2, 3 behind 0.
        dueOrders("with one who looks at the stage 6, kind 0", x, 5, 4, 4, 0, 1);
    }

    private static void orderArguments() {
        Doc.says(ORDERS, "`one`: a visitor");
        NudgeLocks x = Lead.at(0, 3, 1, 2);
        for (int n : Lead.NO_VISITORS) {
            Check.due("orders(" + n + ", 0, 0)", x.orders(n, 0, 0), -1);
        }
        Doc.says(ORDERS, "`other`: another visitor");
        for (int n : Lead.NO_VISITORS) {
            Check.due("orders(0, " + n + ", 0)", x.orders(0, n, 0), -1);
        }
        for (int v = 0; v < 6; v++) {
            for (int w = 0; w < 6; w++) {
                int got = x.orders(v, w, 0);
                Check.holds("orders(" + v + ", " + w + ", 0) answered " + got, v == w ? got == -2 : got > 0);
            }
        }
    }

    private static void howManyStates() {
        Doc.says(ORDERS, "`what`: 0 for how many states there are, that of now counted;");
        NudgeLocks x = Lead.at(2, 3, 5, 0);
        x.go(3);
        Check.due("that of now alone", x.orders(5, 3, 0), 1);
        x = Lead.at(3, 4, 0, 1);
        x.step(3);
        // 0 inside, 3 waiting; 0 back and 3 waiting, inside, back.
        Check.due("that of now and three more", x.orders(0, 3, 0), 4);
        NudgeLocks y = Lead.at(0, 7, 0, 1);
        // 0 at 7 and 1 at 3; 0 back and 1 at 3, 4, 5, back.
        Check.due("from the stage 7", y.orders(0, 1, 0), 5);
        y = Lead.at(0, 6, 0, 1);
        // 0 at 6 and 1 at 2; both known: 0 at 6, 7 with 1 at 3; 0 back and 1 at 3, 4, 5, back.
        Check.due("from the stage 6", y.orders(0, 1, 0), 7);
    }

    private static void bothInside() {
        Doc.says(ORDERS, "1 for the states in which both are inside;");
        for (int kind = 0; kind < 4; kind++) {
            for (int stage : Lead.STAGES[kind]) {
                for (int other : new int[] {0, 2}) {
                    NudgeLocks x = Lead.at(kind, stage, 5, 0);
                    Check.due("orders(5, " + other + ", 1) at the kind " + kind + " and the stage " + stage,
                            x.orders(5, other, 1), 0);
                }
            }
            for (int drawn = 1; drawn < 30; drawn++) {
                NudgeLocks x = Lead.lock(kind);
                x.draw(63, drawn);
                for (int v = 0; v < 6; v++) {
                    Check.due("orders(" + v + ", " + (v + drawn % 5 + 1) % 6 + ", 1) after " + drawn + " draws, kind " + kind,
                            x.orders(v, (v + drawn % 5 + 1) % 6, 1), 0);
                }
            }
        }
    }

    private static void stuck() {
        Doc.says(ORDERS, "2 for the states in which neither has come back and each next step would be a look,");
        for (int kind = 0; kind < 4; kind++) {
            NudgeLocks x = Lead.at(kind, 3, 5, 0);
            x.go(3);
            Check.due("with both looking now, kind " + kind, x.orders(5, 3, 2), 1);
            Check.due("with one who can get in, kind " + kind, x.orders(0, 3, 2), kind == 3 ? 0 : 1);
        }
        Check.due("with both away, in either order", Lead.at(1, 4, 5, 0).orders(2, 3, 2), 2);
        Check.due("with both away and nobody inside", Lead.lock(1).orders(2, 3, 2), 0);
        NudgeLocks x = Lead.at(0, 6, 5, 0);
        // 5 looks for 0, who is at the stage 2; 1 comes behind 0 and looks, too.
        Check.due("with one who looks at the stage 6", x.orders(5, 1, 2), 1);

        Doc.says(ORDERS, "or one has come back and the next step of the other one would be a look");
        NudgeLocks y = Lead.lock(2);
        Lead.steps(y, 0, 1, 2);
        // 0 comes back; 2 waits for 1, who makes no step.
        dueOrders("with one who comes back, and one behind a third one", y, 0, 2, 3, 0, 1);
        dueOrders("with one who comes back, and the one behind it", y, 0, 1, 5, 0, 0);
        NudgeLocks z = Lead.lock(1);
        z.go(0);
        z.go(1);
        z.go(2);
        dueOrders("kind 1: with one who comes back, and one behind a third one", z, 0, 2, 2, 0, 1);
        NudgeLocks w = Lead.at(0, 7, 0, 1);
        w.go(2);
        dueOrders("kind 0: with one who comes back, and one behind a third one", w, 0, 2, 2, 0, 1);
        // 1 can get in then, but not out: it comes to 7 and back.
        dueOrders("kind 0: with one who comes back, and the one behind it", w, 0, 1, 5, 0, 0);
        Check.due("both have come back: that is not among them", Lead.at(3, 4, 0, 1).orders(0, 5, 2), 0);
    }

    private static void orderAnswers() {
        Doc.says(ORDERS, "Returns the number; UNKNOWN (a visitor);");
        Check.due("orders(0, 1, 0)", Lead.lock(3).orders(0, 1, 0), 15);
        for (int n : Lead.NO_VISITORS) {
            Lead.refused("orders(" + n + ", 1, 0)", x -> x.step(3), x -> x.orders(n, 1, 0), -1);
            Lead.refused("orders(1, " + n + ", 2)", x -> x.step(3), x -> x.orders(1, n, 2), -1);
            Lead.refused("orders(" + n + ", " + n + ", 3)", x -> x.step(3), x -> x.orders(n, n, 3), -1);
        }

        Doc.says(ORDERS, "OUT_OF_RANGE (what, or both are the same);");
        for (int what : new int[] {-1, 3, 4, Integer.MIN_VALUE, Integer.MAX_VALUE}) {
            Lead.refused("orders(0, 5, " + what + ")", x -> x.step(3), x -> x.orders(0, 5, what), -2);
        }
        for (int v = 0; v < 6; v++) {
            for (int what = -1; what <= 3; what++) {
                Check.due("orders(" + v + ", " + v + ", " + what + ")", new NudgeLocks().orders(v, v, what), -2);
            }
        }
    }

    private static void tooMany() {
        Doc.says(ORDERS, "NONE if there are more than 300 states.");
        // Two visitors have no more than 9 places each (8 stages and back), and two orders of coming: with the kind 0, where
        // there are most, 43 states. So the most is far below the limit, and is told.
        int most = 0;
        for (int kind = 0; kind < 4; kind++) {
            for (int drawn = 0; drawn < 30; drawn++) {
                NudgeLocks x = Lead.lock(kind);
                if (drawn > 0) {
                    x.draw(63, drawn);
                }
                for (int v = 0; v < 6; v++) {
                    int states = x.orders(v, (v + 1 + drawn % 5) % 6, 0);
                    most = Math.max(most, states);
                    Check.holds("states after " + drawn + " draws, kind " + kind + ": " + states, states >= 1 && states <= 300);
                }
            }
        }
        Check.due("the most states", most, 43);
    }
}
