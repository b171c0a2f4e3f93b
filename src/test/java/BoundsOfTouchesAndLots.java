/** The sentences of FAR TOUCHES and LOTS, each with a test of its own. */
final class BoundsOfTouchesAndLots {
    private static final String TOUCHES = "FAR TOUCHES";

    private BoundsOfTouchesAndLots() {
    }

    static void run() {
        eachPlaceOnce();
        whoseNudges();
        whoseCards();
        whoseOthers();
        noPlaces();
        costs();
        firstX();
        xWrapsAround();
        remainders();
        lesserOnes();
    }

    private static int cost(NudgeLocks x, int v) {
        int before = x.visitor(v, 4);
        x.step(v);
        return x.visitor(v, 4) - before;
    }

    private static void eachPlaceOnce() {
        Doc.says(TOUCHES, "A step costs a far touch for each place that it looks at or changes (each place once) and that "
                + "does not belong to the visitor.");
        Check.due("the tail, looked at and changed: once", cost(Lead.at(0, 1, 3, 0), 3), 1);
        Check.due("the tail, looked at and changed as it leaves: once", cost(Lead.at(0, 5, 3, 0), 3), 1);
        Check.due("the flag, looked at and changed: once", cost(stepped(3, 3), 3), 1);
        Check.due("the number to be given, looked at and changed: once", cost(Lead.lock(2), 3), 1);
        Check.due("the tail, looked at and not changed", cost(tailBehind(), 3), 1);
        NudgeLocks x = Lead.at(3, 3, 3, 0);
        Check.due("the flag, looked at and not changed: a look costs", cost(x, 3), 1);
        Check.due("and each look again", cost(x, 3), 1);
        Check.due("touches of one who did nothing", x.visitor(1, 4), 0);
    }

    /** A new lock of this kind at which the visitor has made its first step. */
    private static NudgeLocks stepped(int kind, int v) {
        NudgeLocks x = Lead.lock(kind);
        x.step(v);
        return x;
    }

    private static NudgeLocks tailBehind() {
        NudgeLocks x = Lead.at(0, 5, 3, 0);
        Lead.steps(x, 0, 0);
        return x;
    }

    private static void whoseNudges() {
        Doc.says(TOUCHES, "With the kind 0 the next one and the flag of a visitor belong to this visitor; the tail belongs "
                + "to nobody (so it is far for all).");
        Check.due("the own next one and flag, at the stage 0", cost(new NudgeLocks(), 0), 0);
        Check.due("the own flag, at the stage 3", cost(Lead.at(0, 3, 0, 1), 0), 0);
        Check.due("the own next one, at the stage 4", cost(Lead.at(0, 4, 0, 1), 0), 0);
        Check.due("the own next one, at the stage 6", cost(Lead.at(0, 6, 0, 1), 0), 0);
        Check.due("the next one of another one, at the stage 2", cost(Lead.at(0, 2, 0, 1), 0), 1);
        Check.due("the flag of another one, at the stage 7", cost(Lead.at(0, 7, 0, 1), 0), 1);
        for (int v = 0; v < 6; v++) {
            Check.due("the tail, by " + v, cost(Lead.at(0, 1, v, 0), v), 1);
            Check.due("the tail that is " + v + " itself", cost(Lead.at(0, 5, v, 0), v), 1);
        }
    }

    private static void whoseCards() {
        Doc.says(TOUCHES, "With the kind 1 the flag of a card belongs to the visitor who has the card (as its own) ahead of "
                + "the step; the tail, and the flag of the card that nobody has, belong to nobody.");
        for (int v = 0; v < 6; v++) {
            Check.due("the tail, by " + v, cost(Lead.at(1, 1, v, 0), v), 1);
            Check.due("the own card's flag, raised by " + v, cost(Lead.lock(1), v), 0);
            Check.due("the own card's flag, lowered by " + v, cost(Lead.at(1, 4, v, 0), v), 0);
        }
        NudgeLocks x = Lead.lock(1);
        Lead.steps(x, 2, 2);
        Check.due("the flag of the card 6, which nobody has", cost(x, 2), 1);
        Lead.steps(x, 4, 4);
        Check.due("the flag of the card 2, which 2 has", cost(x, 4), 1);
        x.step(2);
        Check.due("the card 6 is now the own one of 2", x.visitor(2, 7), 6);
        Check.due("its flag costs nothing", cost(x, 2), 0);
        Check.due("the flag of the card 2, which nobody has now", cost(x, 4), 1);
        x.go(2);
        Check.due("the flag of the card 4, which 4 has", cost(x, 2), 1);
    }

    private static void whoseOthers() {
        Doc.says(TOUCHES, "With the kinds 2 and 3 all places belong to nobody.");
        for (int v = 0; v < 6; v++) {
            NudgeLocks x = Lead.lock(2);
            for (int i = 0; i < 3; i++) {
                Check.due("kind 2, step " + i + " of " + v, cost(x, v), 1);
            }
            x = Lead.lock(3);
            x.step(v);
            for (int i = 0; i < 2; i++) {
                Check.due("kind 3, step " + i + " of " + v, cost(x, v), 1);
            }
        }
    }

    private static void noPlaces() {
        Doc.says(TOUCHES, "The one ahead, which card a visitor has or watches, and tickets are no places.");
        Check.due("the stage 1 of the kind 0: the tail, not the one ahead", cost(Lead.at(0, 1, 0, 1), 0), 1);
        Check.due("the stage 2: the next one of the one ahead alone", cost(Lead.at(0, 2, 0, 1), 0), 1);
        Check.due("the stage 1 of the kind 1: the tail, not the cards", cost(Lead.at(1, 1, 0, 1), 0), 1);
        Check.due("the stage 4: neither the card that it has nor the one that it watches", cost(Lead.at(1, 4, 0, 1), 0), 0);
        Check.due("the stage 3 of the kind 2: the number, not the ticket", cost(Lead.at(2, 3, 0, 1), 0), 1);
    }

    private static void costs() {
        String[] sentences = {
            "kind 0: stage 1 one, 2 one, 5 one, 7 one, all others none;",
            "kind 1: stage 1 one, 3 one, 0 and 4 none;",
            "kind 2: stage 0 one, 3 one, 4 one;",
            "kind 3: stage 3 one, 4 one.",
        };
        int[][] wants = {{0, 1, 1, 0, 0, 1, 0, 1}, {0, 1, 1, 0}, {1, 1, 1}, {0, 1, 1}};
        Doc.saysNothingToTest(TOUCHES, "So the stages cost (beside what belongs to the visitor):");
        for (int kind = 0; kind < 4; kind++) {
            Doc.says(TOUCHES, sentences[kind]);
            for (int i = 0; i < wants[kind].length; i++) {
                int stage = Lead.STAGES[kind][i];
                NudgeLocks x = Lead.at(kind, stage, 3, 4);
                int all = x.total(8);
                Check.due("wouldTouch(3) at the stage " + stage, x.wouldTouch(3), wants[kind][i]);
                Check.due("a step at the stage " + stage, cost(x, 3), wants[kind][i]);
                Check.due("total(8) after it", x.total(8) - all, wants[kind][i]);
            }
        }
    }

    private static void firstX() {
        Doc.says("LOTS", "There is a number x from 0 to 2147483647 (1 at first).");
        NudgeLocks x = new NudgeLocks();
        Check.due("total(12)", x.total(12), 1);
        x.shuffle(0);
        Check.due("the least x", x.total(12), 0);
        x.shuffle(2147483647);
        Check.due("the greatest x", x.total(12), 2147483647);
        for (int i = 0; i < 100; i++) {
            x.draw(63, 1);
            Check.holds("x is not negative", x.total(12) >= 0);
        }
    }

    private static void xWrapsAround() {
        Doc.says("LOTS", "A visitor is drawn of a set in this way: x becomes (x * 1103515245 + 12345) modulo 2147483648;");
        // From where x becomes what, worked out aside; the products go far beyond 32 bits.
        int[][] pairs = {
            {0, 12345}, {1, 1103527590}, {2, 59559187}, {2147483646, 2087949151}, {2147483647, 1043980748},
            {2088216195, 0}, {1798410728, 1}, {230538014, 2147483647},
        };
        for (int[] p : pairs) {
            NudgeLocks x = new NudgeLocks();
            x.shuffle(p[0]);
            x.draw(63, 1);
            Check.due("x after one lot from " + p[0], x.total(12), p[1]);
        }
        NudgeLocks x = new NudgeLocks();
        x.draw(8, 1);
        Check.due("x after one lot of a set of one", x.total(12), 1103527590);
        x.draw(8, 2);
        long two = 1103527590L;
        for (int i = 0; i < 2; i++) {
            two = (two * 1103515245L + 12345L) % 2147483648L;
        }
        Check.due("x after two more", x.total(12), two);
    }

    private static void remainders() {
        Doc.says("LOTS", "let r be x / 65536 modulo how many are in the set;");
        // From where, and the quotient by 65536 of what x becomes: 0 and 65535, 65536 and 131071, 131072, 5 * 65536,
        // 6 * 65536 - 1, 6 * 65536, and the greatest two quotients' edges.
        int[][] pairs = {
            {2088216195, 0}, {2032319262, 0}, {1742513795, 1}, {1686616862, 1}, {1396811395, 2}, {359704195, 5},
            {303807262, 5}, {14001795, 6}, {286434947, 32767}, {230538014, 32767},
        };
        for (int[] p : pairs) {
            for (int size = 1; size <= 6; size++) {
                NudgeLocks x = new NudgeLocks();
                x.shuffle(p[0]);
                x.draw((1 << size) - 1, 1);
                Check.due("one of " + size + " with the quotient " + p[1], x.visitor(p[1] % size, 1), 1);
            }
        }
    }

    private static void lesserOnes() {
        Doc.says("LOTS", "the visitor is the one of the set with r lesser ones in it.");
        int[][] pairs = {{2088216195, 0}, {1742513795, 1}, {1396811395, 2}, {359704195, 5}, {14001795, 6}, {230538014, 32767}};
        for (int set = 1; set < 64; set++) {
            for (int[] p : pairs) {
                NudgeLocks x = new NudgeLocks();
                x.shuffle(p[0]);
                x.draw(set, 1);
                int drawn = -1;
                for (int v = 0; v < 6; v++) {
                    drawn = x.visitor(v, 1) == 1 ? v : drawn;
                }
                int lesser = drawn < 0 ? -1 : Integer.bitCount(set & (1 << drawn) - 1);
                Check.holds("the one that is drawn is in the set " + set, drawn >= 0 && (set & 1 << drawn) != 0);
                Check.due("lesser ones in the set " + set, lesser, p[1] % Integer.bitCount(set));
            }
        }
        NudgeLocks x = new NudgeLocks();
        x.shuffle(2088216195);
        x.draw(32, 1);
        Check.due("the visitor 5 alone", x.visitor(5, 1), 1);
    }
}
