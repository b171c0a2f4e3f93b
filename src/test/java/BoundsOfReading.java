/** The sentences of the promises 14 to 17, each with a test of its own. */
final class BoundsOfReading {
    private static final String VISITOR = "Promise 14";
    private static final String LINE = "Promise 15";
    private static final String CARD = "Promise 16";
    private static final String TOTAL = "Promise 17";

    private BoundsOfReading() {
    }

    static void run() {
        ranges();
        counts();
        nextAndAhead();
        cardsAndTickets();
        flagsAndPlaces();
        nothingLikeIt();
        whoIsInLine();
        inWhichOrder();
        whoComesOut();
        kindThree();
        places();
        cards();
        totals();
        insideAndTail();
        sums();
        numbersAndFlag();
        xAndLengths();
    }

    private static void ranges() {
        Doc.says(VISITOR, "Returns something of a visitor.");
        NudgeLocks x = Lead.at(2, 3, 5, 1);
        int[] wants = {3, 1, 0, 0, 1, -5, -5, -5, 1, -5, 1};
        for (int what = 0; what <= 10; what++) {
            Check.due("visitor(5, " + what + ")", x.visitor(5, what), wants[what]);
        }
        Doc.saysNothingToTest(VISITOR, "`visitor`: a visitor");

        Doc.says(VISITOR, "Returns the number; UNKNOWN; OUT_OF_RANGE;");
        for (int n : Lead.NO_VISITORS) {
            Check.due("visitor(" + n + ", 0)", x.visitor(n, 0), -1);
            Check.due("visitor(" + n + ", 10)", x.visitor(n, 10), -1);
            Check.due("visitor(" + n + ", -1)", x.visitor(n, -1), -1);
            Check.due("visitor(" + n + ", 11)", x.visitor(n, 11), -1);
        }
        for (int what : new int[] {-1, 11, 12, -10, Integer.MIN_VALUE, Integer.MAX_VALUE}) {
            for (int kind = 0; kind < 4; kind++) {
                Check.due("visitor(0, " + what + "), kind " + kind, Lead.lock(kind).visitor(0, what), -2);
            }
            Check.due("visitor(5, " + what + ")", x.visitor(5, what), -2);
        }
    }

    private static void counts() {
        Doc.says(VISITOR, "`what`: 0 for its stage,");
        for (int kind = 0; kind < 4; kind++) {
            for (int stage : Lead.STAGES[kind]) {
                Check.due("visitor(0, 0), kind " + kind, Lead.at(kind, stage, 0, 5).visitor(0, 0), stage);
                Check.due("visitor(5, 0), kind " + kind, Lead.at(kind, stage, 5, 0).visitor(5, 0), stage);
            }
        }
        NudgeLocks x = new NudgeLocks();
        x.go(5);
        x.go(0);
        Lead.steps(x, 0, 0, 0);
        x.go(5);

        Doc.says(VISITOR, "1 for its steps so far,");
        Check.due("of 5", x.visitor(5, 1), 4);
        Check.due("of 0, looks counted", x.visitor(0, 1), 6);
        Check.due("of 1", x.visitor(1, 1), 0);

        Doc.says(VISITOR, "2 for its looks so far,");
        Check.due("of 5", x.visitor(5, 2), 0);
        Check.due("of 0", x.visitor(0, 2), 3);
        Check.due("of 1", x.visitor(1, 2), 0);

        Doc.says(VISITOR, "3 for its visits so far,");
        Check.due("of 5", x.visitor(5, 3), 1);
        Check.due("of 0", x.visitor(0, 3), 0);
        x.finish();
        x.finish();
        Check.due("of 0 when it is back", x.visitor(0, 3), 1);
        x.go(5);
        x.go(5);
        Check.due("of 5 after two visits", x.visitor(5, 3), 2);

        Doc.says(VISITOR, "4 for its far touches so far,");
        Check.due("of 5: 1 and 7, 1 and 5", x.visitor(5, 4), 4);
        Check.due("of 0: 1, 2 and 5", x.visitor(0, 4), 3);
        Check.due("of 1", x.visitor(1, 4), 0);
        x.build(3);
        x.step(5);
        x.step(5);
        Check.due("of 5, after a grab", x.visitor(5, 4), 5);
    }

    private static void nextAndAhead() {
        Doc.says(VISITOR, "5 for its next one (kind 0),");
        NudgeLocks x = Lead.at(0, 2, 0, 5);
        Check.due("not yet known", x.visitor(5, 5), -5);
        x.step(0);
        Check.due("known", x.visitor(5, 5), 0);
        Check.due("of the last one", x.visitor(0, 5), -5);
        x.go(2);
        Check.due("of the second one", x.visitor(0, 5), 2);
        x.go(5);
        Check.due("of one who went, until it comes again", x.visitor(5, 5), 0);
        x.step(5);
        Check.due("of one who came again", x.visitor(5, 5), -5);

        Doc.says(VISITOR, "6 for the one ahead (kind 0, at the stages 2 and 3)");
        for (int stage = 0; stage < 8; stage++) {
            NudgeLocks y = Lead.at(0, stage, 4, 0);
            Check.due("visitor(4, 6) at the stage " + stage, y.visitor(4, 6), stage == 2 || stage == 3 ? 0 : -5);
        }

        Doc.says(VISITOR, "or the card that it watches (kind 1, at the stages 3 and 4),");
        for (int stage : Lead.STAGES[1]) {
            NudgeLocks y = Lead.at(1, stage, 4, 0);
            Check.due("visitor(4, 6) at the stage " + stage, y.visitor(4, 6), stage == 3 ? 0 : stage == 4 ? 6 : -5);
        }
        NudgeLocks y = Lead.at(1, 4, 4, 0);
        y.step(4);
        Check.due("visitor(4, 6) after a visit", y.visitor(4, 6), -5);
        y.step(4);
        Check.due("visitor(4, 6) at the stage 1 of the second visit", y.visitor(4, 6), -5);
        y.step(4);
        Check.due("visitor(4, 6) at the stage 3 of the second visit", y.visitor(4, 6), 4);
    }

    private static void cardsAndTickets() {
        Doc.says(VISITOR, "7 for its own card (kind 1),");
        NudgeLocks x = Lead.lock(1);
        for (int v = 0; v < 6; v++) {
            Check.due("visitor(" + v + ", 7) at first", x.visitor(v, 7), v);
        }
        x.go(5);
        Check.due("inside", x.visitor(5, 7), 5);
        x.go(0);
        x.go(5);
        Check.due("after a visit", x.visitor(5, 7), 6);
        x.go(0);
        x.go(0);
        Check.due("after a visit behind 5", x.visitor(0, 7), 5);

        Doc.says(VISITOR, "8 for its ticket (kind 2), as long as it is not away,");
        NudgeLocks y = Lead.lock(2);
        Check.due("away at first", y.visitor(0, 8), -5);
        y.step(5);
        y.step(0);
        Check.due("the ticket 0", y.visitor(5, 8), 0);
        Check.due("the ticket 1", y.visitor(0, 8), 1);
        y.step(5);
        Check.due("inside", y.visitor(5, 8), 0);
        y.step(5);
        Check.due("away again", y.visitor(5, 8), -5);
        y.step(5);
        Check.due("its second ticket", y.visitor(5, 8), 2);
        Check.due("one who waits still", y.visitor(0, 8), 1);
    }

    private static void flagsAndPlaces() {
        Doc.says(VISITOR, "9 for whether its flag is up (kind 0; 1 if it is, otherwise 0),");
        NudgeLocks x = new NudgeLocks();
        Check.due("at first", x.visitor(0, 9), 0);
        x.step(0);
        Check.due("at the stage 1", x.visitor(0, 9), 1);
        x.step(0);
        x.go(5);
        Check.due("of one who waits", x.visitor(5, 9), 1);
        Check.due("of one who came alone", x.visitor(0, 9), 1);
        x.go(0);
        Check.due("of one who was nudged", x.visitor(5, 9), 0);
        Check.due("of one who nudged", x.visitor(0, 9), 1);

        Doc.says(VISITOR, "10 for its place in line");
        for (int kind = 0; kind < 3; kind++) {
            NudgeLocks y = Lead.lock(kind);
            int[] line = {5, 0, 3, 2, 4, 1};
            for (int i = 0; i < 6; i++) {
                Check.due("visitor(" + line[i] + ", 10) ahead of coming, kind " + kind, y.visitor(line[i], 10), -5);
                y.go(line[i]);
            }
            for (int i = 0; i < 6; i++) {
                Check.due("visitor(" + line[i] + ", 10), kind " + kind, y.visitor(line[i], 10), i);
            }
            y.go(5);
            Check.due("visitor(5, 10) when it is back, kind " + kind, y.visitor(5, 10), -5);
            Check.due("visitor(0, 10) then, kind " + kind, y.visitor(0, 10), 0);
            Check.due("visitor(1, 10) then, kind " + kind, y.visitor(1, 10), 4);
        }
    }

    private static void nothingLikeIt() {
        Doc.says(VISITOR, "NONE if there is no such thing (with this kind, or now), or the next one is nobody.");
        int[] of = {0, 1, 2, 0};
        for (int kind = 0; kind < 4; kind++) {
            for (int stage : Lead.STAGES[kind]) {
                NudgeLocks x = Lead.at(kind, stage, 1, 2);
                String name = ") with the kind " + kind + " at the stage " + stage;
                boolean ahead = kind == 0 && (stage == 2 || stage == 3) || kind == 1 && stage >= 3;
                boolean line = kind == 0 && stage >= 2 || kind == 1 && stage >= 3 || kind == 2 && stage > 0;
                Check.holds("visitor(1, 5" + name, (x.visitor(1, 5) == -5) == !(kind == 0 && stage == 7));
                Check.holds("visitor(1, 6" + name, (x.visitor(1, 6) == -5) == !ahead);
                Check.holds("visitor(1, 7" + name, (x.visitor(1, 7) == -5) == (kind != of[1]));
                Check.holds("visitor(1, 8" + name, (x.visitor(1, 8) == -5) == !(kind == of[2] && stage > 0));
                Check.holds("visitor(1, 9" + name, (x.visitor(1, 9) == -5) == (kind != of[0]));
                Check.holds("visitor(1, 10" + name, (x.visitor(1, 10) == -5) == !line);
            }
        }
    }

    private static void dueLine(String name, NudgeLocks x, int... line) {
        for (int place = 0; place < 7; place++) {
            Check.due("inLine(" + place + ") " + name, x.inLine(place), place < line.length ? line[place] : -5);
        }
        for (int v = 0; v < 6; v++) {
            int at = -5;
            for (int place = 0; place < line.length; place++) {
                at = line[place] == v ? place : at;
            }
            Check.due("visitor(" + v + ", 10) " + name, x.visitor(v, 10), at);
        }
    }

    private static void whoIsInLine() {
        Doc.says(LINE, "Returns a visitor that is in line.");
        dueLine("with one behind", Lead.at(0, 3, 0, 5), 5, 0);
        dueLine("of a new object", new NudgeLocks());

        Doc.says(LINE, "In line are, with the kinds 0 and 1, those who are at the stage 2 or a higher one,");
        int[][] withTwo = {{}, {}, {2, 1}, {2, 1}, {1}, {1}, {1, 2}, {1, 2}};
        for (int stage = 0; stage < 8; stage++) {
            dueLine("at the stage " + stage + ", kind 0", Lead.at(0, stage, 1, 2), withTwo[stage]);
        }
        NudgeLocks x = new NudgeLocks();
        Lead.steps(x, 3, 4, 4);
        dueLine("with 3 at the stage 1, and 4 who came past it", x, 4);
        x.step(3);
        dueLine("with 3 at the stage 2", x, 4, 3);

        Doc.says(LINE, "(with the kind 1 the stage 3 or a higher one);");
        int[][] watching = {{}, {}, {}, {2, 1}, {1}};
        for (int stage : Lead.STAGES[1]) {
            dueLine("at the stage " + stage + ", kind 1", Lead.at(1, stage, 1, 2), watching[stage]);
        }

        Doc.says(LINE, "and with the kind 2 those who are not away,");
        int[][] waiting = {{}, {}, {}, {2, 1}, {1}};
        for (int stage : Lead.STAGES[2]) {
            dueLine("at the stage " + stage + ", kind 2", Lead.at(2, stage, 1, 2), waiting[stage]);
        }
        NudgeLocks y = Lead.lock(2);
        y.step(3);
        dueLine("with one who drew its ticket alone", y, 3);
    }

    private static void inWhichOrder() {
        Doc.says(LINE, "in the order in which they came to be so");
        for (int kind = 0; kind < 3; kind++) {
            NudgeLocks x = Lead.lock(kind);
            int[] line = {4, 2, 5, 0, 1, 3};
            // With the kinds 0 and 1 the first step does not yet bring them into the line: they make it the other way round.
            for (int i = 5; i >= 0 && kind < 2; i--) {
                x.step(line[i]);
            }
            dueLine("after the first steps, kind " + kind, x);
            for (int v : line) {
                x.step(v);
            }
            dueLine("of six, kind " + kind, x, line);
            x.step(1);
            x.step(2);
            dueLine("of six after more steps, kind " + kind, x, line);
            if (x.visitor(4, 0) == 3) {
                x.go(4);
            }
            x.go(4);
            dueLine("of five, kind " + kind, x, 2, 5, 0, 1, 3);
            x.go(4);
            dueLine("of six with one who came again, kind " + kind, x, 2, 5, 0, 1, 3, 4);
        }
    }

    private static void whoComesOut() {
        Doc.says(LINE, "who is inside, or comes out of it (stages 4 to 7), is in line, too.");
        for (int stage = 4; stage < 8; stage++) {
            NudgeLocks x = Lead.at(0, stage, 5, 0);
            Check.due("inLine(0) at the stage " + stage, x.inLine(0), 5);
            Check.due("visitor(5, 10) at the stage " + stage, x.visitor(5, 10), 0);
        }
        NudgeLocks x = Lead.at(0, 7, 5, 0);
        x.step(5);
        dueLine("when it is back", x, 0);
        for (int kind = 1; kind < 3; kind++) {
            NudgeLocks y = Lead.at(kind, 4, 5, 0);
            dueLine("with one inside, kind " + kind, y, 5);
            y.step(5);
            dueLine("when it is back, kind " + kind, y);
        }
    }

    private static void kindThree() {
        Doc.says(LINE, "With the kind 3 nobody is in line.");
        for (int stage : Lead.STAGES[3]) {
            dueLine("at the stage " + stage, Lead.at(3, stage, 5, 0));
        }
    }

    private static void places() {
        Doc.says(LINE, "`place`: 0 for the first one, and so on");
        for (int kind = 0; kind < 3; kind++) {
            NudgeLocks x = Lead.lock(kind);
            for (int v = 0; v < 6; v++) {
                x.go(v);
                Check.due("inLine(0), kind " + kind, x.inLine(0), 0);
                Check.due("inLine(" + v + "), kind " + kind, x.inLine(v), v);
            }
        }

        Doc.says(LINE, "Returns the visitor; OUT_OF_RANGE if place is negative;");
        for (int kind = 0; kind < 4; kind++) {
            NudgeLocks x = Lead.at(kind, 3, 5, 0);
            Check.due("inLine(-1), kind " + kind, x.inLine(-1), -2);
            Check.due("inLine(MIN), kind " + kind, x.inLine(Integer.MIN_VALUE), -2);
            Check.due("inLine(-1) of an empty line, kind " + kind, Lead.lock(kind).inLine(-1), -2);
        }

        Doc.says(LINE, "NONE if there are not so many.");
        for (int kind = 0; kind < 3; kind++) {
            NudgeLocks x = Lead.lock(kind);
            for (int v = 0; v < 6; v++) {
                Check.due("inLine(" + v + ") with " + v + " in line, kind " + kind, x.inLine(v), -5);
                x.go(v);
                Check.due("inLine(" + v + ") with one more, kind " + kind, x.inLine(v), v);
            }
            for (int place : new int[] {6, 7, 60, Integer.MAX_VALUE}) {
                Check.due("inLine(" + place + ") of a full line, kind " + kind, x.inLine(place), -5);
            }
            x.finish();
            Check.due("inLine(0) when all are back, kind " + kind, x.inLine(0), -5);
        }
    }

    private static void cards() {
        Doc.says(CARD, "Returns a flag of a card.");
        NudgeLocks x = Lead.lock(1);
        x.go(3);
        x.go(0);
        int[] flags = {1, 0, 0, 1, 0, 0, 0};
        for (int card = 0; card < 7; card++) {
            Check.due("card(" + card + ")", x.card(card), flags[card]);
        }

        Doc.says(CARD, "`card`: 0 to 6");
        for (int card = 0; card < 7; card++) {
            Check.holds("card(" + card + ") is not refused", x.card(card) >= 0);
        }
        Check.due("card(-1)", x.card(-1), -1);
        Check.due("card(7)", x.card(7), -1);

        Doc.says(CARD, "Returns 1 if it is up, 0 if it is down;");
        x.go(3);
        Check.due("card(3) when 3 is out", x.card(3), 0);
        Check.due("card(0) of one who waits", x.card(0), 1);
        x.go(3);
        Check.due("card(6), the one that 3 has now", x.card(6), 1);
        Check.due("card(3), which it had", x.card(3), 0);

        Doc.says(CARD, "UNKNOWN (there is no such card);");
        for (int kind = 0; kind < 4; kind++) {
            for (int card : new int[] {-1, 7, 8, -7, Integer.MIN_VALUE, Integer.MAX_VALUE}) {
                Check.due("card(" + card + "), kind " + kind, Lead.lock(kind).card(card), -1);
            }
        }

        Doc.says(CARD, "NONE if the kind is not 1.");
        for (int kind = 0; kind < 4; kind++) {
            for (int card = 0; card < 7; card++) {
                Check.due("card(" + card + "), kind " + kind, Lead.lock(kind).card(card), kind == 1 ? 0 : -5);
            }
        }
        x.finish();
        x.build(0);
        Check.due("card(0) of a lock that is gone", x.card(0), -5);
    }

    private static void totals() {
        Doc.says(TOTAL, "Returns a number of the whole.");
        NudgeLocks x = Lead.at(2, 3, 5, 1);
        int[] wants = {2, 1, -5, 2, 0, 3, 0, 0, 3, 2, 0, -5, 1, 3, 0};
        for (int what = 0; what < 15; what++) {
            Check.due("total(" + what + ")", x.total(what), wants[what]);
        }

        Doc.says(TOTAL, "Returns the number; OUT_OF_RANGE.");
        for (int kind = 0; kind < 4; kind++) {
            NudgeLocks y = Lead.lock(kind);
            for (int what : new int[] {-1, 15, 16, -14, Integer.MIN_VALUE, Integer.MAX_VALUE}) {
                Check.due("total(" + what + "), kind " + kind, y.total(what), -2);
            }
        }

        Doc.says(TOTAL, "`what`: 0 for the kind,");
        for (int kind = 0; kind < 4; kind++) {
            Check.due("total(0)", Lead.lock(kind).total(0), kind);
            Check.due("total(0) with one inside", Lead.at(kind, 4, 3, 0).total(0), kind);
        }
    }

    private static void insideAndTail() {
        Doc.says(TOTAL, "1 for the visitor that is inside (NONE without one),");
        for (int kind = 0; kind < 4; kind++) {
            Check.due("total(1) with all away, kind " + kind, Lead.lock(kind).total(1), -5);
            for (int v = 0; v < 6; v++) {
                Check.due("total(1) with " + v + " inside, kind " + kind, Lead.at(kind, 4, v, 0).total(1), v);
            }
            NudgeLocks x = Lead.at(kind, 4, 0, 1);
            x.go(5);
            x.go(0);
            Check.due("total(1) with one who may come in, kind " + kind, x.total(1), -5);
        }
        for (int stage = 5; stage < 8; stage++) {
            Check.due("total(1) at the stage " + stage, Lead.at(0, stage, 5, 1).total(1), -5);
        }

        Doc.says(TOTAL, "2 for the tail: a visitor (kind 0) or a card (kind 1; NONE otherwise, and without one),");
        Check.due("nobody, kind 0", Lead.lock(0).total(2), -5);
        Check.due("the visitor 0", Lead.at(0, 4, 0, 1).total(2), 0);
        Check.due("the visitor 5", Lead.at(0, 2, 5, 1).total(2), 5);
        NudgeLocks x = Lead.at(0, 4, 5, 1);
        x.finish();
        Check.due("nobody again", x.total(2), -5);
        Check.due("the card 6", Lead.lock(1).total(2), 6);
        Check.due("the card 0", Lead.at(1, 4, 0, 1).total(2), 0);
        NudgeLocks y = Lead.at(1, 4, 0, 1);
        y.finish();
        Check.due("the card 0, which nobody has", y.total(2), 0);
        for (int kind = 2; kind < 4; kind++) {
            for (int stage : Lead.STAGES[kind]) {
                Check.due("no tail, kind " + kind, Lead.at(kind, stage, 3, 1).total(2), -5);
            }
        }

        Doc.says(TOTAL, "3 for visitors that are not away,");
        for (int kind = 0; kind < 4; kind++) {
            NudgeLocks z = Lead.lock(kind);
            for (int v = 0; v < 6; v++) {
                Check.due("total(3), kind " + kind, z.total(3), v);
                z.step(v);
            }
            Check.due("total(3) with all six, kind " + kind, z.total(3), 6);
            z.finish();
            Check.due("total(3) when all are back, kind " + kind, z.total(3), 0);
        }

        Doc.says(TOTAL, "4 for visitors at the stage 2,");
        NudgeLocks z = Lead.lock(0);
        z.go(0);
        for (int v = 1; v < 6; v++) {
            Check.due("total(4)", z.total(4), v - 1);
            z.step(v);
            Check.due("total(4) with one at the stage 1", z.total(4), v - 1);
            z.step(v);
        }
        Check.due("total(4) with five", z.total(4), 5);
        z.step(3);
        Check.due("total(4) when one is at the stage 3", z.total(4), 4);
        for (int kind = 1; kind < 4; kind++) {
            Check.due("total(4) with one who waits, kind " + kind, Lead.at(kind, 3, 3, 0).total(4), 0);
        }
    }

    private static void sums() {
        NudgeLocks x = new NudgeLocks();
        x.go(5);
        x.go(0);
        Lead.steps(x, 0, 0, 0);
        x.go(5);
        Doc.says(TOTAL, "5 for steps so far,");
        Check.due("total(5): 2, 3, 3 looks, 2", x.total(5), 10);
        Doc.says(TOTAL, "6 for looks so far,");
        Check.due("total(6)", x.total(6), 3);
        Doc.says(TOTAL, "7 for visits so far,");
        Check.due("total(7)", x.total(7), 1);
        Doc.says(TOTAL, "8 for far touches so far,");
        Check.due("total(8): 1 and 7, 1 and 2", x.total(8), 4);
        x.finish();
        Check.due("total(8) after finish(): 5 too", x.total(8), 5);
        for (int kind = 0; kind < 4; kind++) {
            NudgeLocks y = Lead.lock(kind);
            y.draw(63, 200);
            for (int what = 1; what < 5; what++) {
                int sum = 0;
                for (int v = 0; v < 6; v++) {
                    sum += y.visitor(v, what);
                }
                Check.due("total(" + (what + 4) + ") as a sum, kind " + kind, y.total(what + 4), sum);
            }
        }
    }

    private static void numbersAndFlag() {
        Doc.says(TOTAL, "9 for the number to be given, 10 for the number to be served (both NONE if the kind is not 2),");
        for (int kind = 0; kind < 4; kind++) {
            NudgeLocks x = Lead.lock(kind);
            boolean tickets = kind == 2;
            Check.due("total(9) at first, kind " + kind, x.total(9), tickets ? 0 : -5);
            Check.due("total(10) at first, kind " + kind, x.total(10), tickets ? 0 : -5);
            x.go(5);
            x.go(1);
            x.go(5);
            Check.due("total(9), kind " + kind, x.total(9), tickets ? 2 : -5);
            Check.due("total(10), kind " + kind, x.total(10), tickets ? 1 : -5);
        }
        NudgeLocks x = Lead.lock(2);
        x.go(5);
        x.go(5);
        x.build(0);
        Check.due("total(9) of a lock that is gone", x.total(9), -5);
        x.build(2);
        Check.due("total(9) of a new lock", x.total(9), 0);
        Check.due("total(10) of a new lock", x.total(10), 0);

        Doc.says(TOTAL, "11 for whether the flag is up (kind 3; 1 or 0, NONE otherwise),");
        for (int kind = 0; kind < 4; kind++) {
            boolean grabbing = kind == 3;
            Check.due("total(11) at first, kind " + kind, Lead.lock(kind).total(11), grabbing ? 0 : -5);
            Check.due("total(11) with one inside, kind " + kind, Lead.at(kind, 4, 5, 0).total(11), grabbing ? 1 : -5);
        }
        NudgeLocks y = Lead.at(3, 3, 5, 0);
        y.go(0);
        Check.due("total(11) with one who may grab", y.total(11), 0);
    }

    private static void xAndLengths() {
        Doc.says(TOTAL, "12 for x,");
        NudgeLocks x = new NudgeLocks();
        Check.due("total(12) at first", x.total(12), 1);
        x.shuffle(2147483647);
        Check.due("total(12), the greatest", x.total(12), 2147483647);
        x.shuffle(0);
        Check.due("total(12), the least", x.total(12), 0);

        Doc.says(TOTAL, "13 for the states in the history,");
        for (int states = 0; states < 7; states++) {
            NudgeLocks y = new NudgeLocks();
            for (int i = 0; i < states; i++) {
                y.step(i % 6);
            }
            Check.due("total(13) after " + states + " changes", y.total(13), Math.min(states, 4));
            y.keep();
            Check.due("total(13): a snapshot is not among them", y.total(13), Math.min(states, 4));
        }

        Doc.says(TOTAL, "14 for the length of the text");
        NudgeLocks y = new NudgeLocks();
        for (int length = 0; length < 60; length++) {
            Check.due("total(14)", y.total(14), length);
            y.type((char) (length * 1000));
        }
        Check.due("total(14) of a full text", y.total(14), 60);
        y.type('a');
        Check.due("total(14) after a type() that was refused", y.total(14), 60);
        y.clearText();
        Check.due("total(14) of an empty text", y.total(14), 0);
    }
}
