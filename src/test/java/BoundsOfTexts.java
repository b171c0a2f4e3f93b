import java.util.HashMap;
import java.util.Map;

/** The sentences of TEXTS, and of the promises 7, 9 and 10, each with a test of its own. */
final class BoundsOfTexts {
    private static final Map<String, Boolean> SCHEDULES = new HashMap<>();
    private static NudgeLocks worn = new NudgeLocks();
    private static int calls = 0;

    private BoundsOfTexts() {
    }

    static void run() {
        room();
        lists();
        items();
        digits();
        faults();
        faultsOfAllShortTexts();
        tooEarly();
        carriedOut();
        faultAsAnswer();
        full();
        typing();
        lengthThen();
        noRoom();
        clearing();
    }

    private static void due(String text, int want) {
        NudgeLocks x = Lead.typed(text);
        Check.due("perform() of '" + text + "'", x.perform(), want);
        Check.due("steps after '" + text + "'", x.total(5), Math.max(want, 0));
        Check.due("states after '" + text + "'", x.total(13), want < 0 ? 0 : 1);
        Check.due("length of '" + text + "' after it", x.total(14), text.length());
    }

    private static void dueFault(String text, int fault) {
        due(text, -100 - fault);
    }

    /** The steps of each visitor in this order, and none of the others. */
    private static void dueSteps(String text, int... steps) {
        NudgeLocks x = Lead.typed(text);
        int sum = 0;
        for (int s : steps) {
            sum += s;
        }
        Check.due("perform() of '" + text + "'", x.perform(), sum);
        for (int v = 0; v < 6; v++) {
            Check.due("steps of " + v + " by '" + text + "'", x.visitor(v, 1), v < steps.length ? steps[v] : 0);
        }
    }

    private static void room() {
        Doc.says("TEXTS", "There is a text of at most 60 characters, empty at first.");
        NudgeLocks x = new NudgeLocks();
        Check.due("total(14) at first", x.total(14), 0);
        Check.due("perform() at first", x.perform(), -100);
        Lead.type(x, "e".repeat(59));
        Check.due("total(14) with 59", x.total(14), 59);
        Check.due("type('f') as the 60th", x.type('f'), 60);
        Check.due("type('f') as the 61st", x.type('f'), -3);
        Check.due("total(14) with 60", x.total(14), 60);
        Check.due("perform() of all 60", x.perform(), 60);
        Check.due("steps by the 60th", x.visitor(5, 1), 1);
    }

    private static void lists() {
        Doc.says("TEXTS", "A schedule is a list of one or more items with nothing between them.");
        due("a", 1);
        due("ab", 2);
        due("a(b)c", 3);
        due("2a3b", 5);
        dueFault("", 0);
        dueFault("()", 1);
        dueFault("a()", 2);
        dueFault("a b", 1);
        dueFault(" a", 0);
        dueFault("a ", 1);
        dueFault("a,b", 1);
        dueFault("a\nb", 1);
        dueFault("2 a", 1);
        dueFault("( a)", 1);
    }

    private static void items() {
        Doc.says("TEXTS", "An item is a letter from \"a\" to \"f\" (a step of the visitor 0 to 5), or \"(\", a schedule, "
                + "and \")\";");
        for (int v = 0; v < 6; v++) {
            NudgeLocks x = Lead.typed(String.valueOf((char) ('a' + v)));
            Check.due("perform() of the letter of " + v, x.perform(), 1);
            Check.due("steps of " + v, x.visitor(v, 1), 1);
            Check.due("its stage", x.visitor(v, 0), 1);
        }
        for (String wrong : new String[] {"`", "g", "A", "F", "@", "G", "z", "\u0000", "\u0161", "\uff41", "\u0661"}) {
            dueFault(wrong, 0);
            dueFault("a" + wrong, 1);
            dueFault("2" + wrong, 1);
            dueFault("(" + wrong, 1);
        }
        due("(a)", 1);
        due("((a))", 1);
        due("(a)(b)", 2);
        dueFault(")", 0);
        dueFault("a)", 1);
        dueFault("(a", 2);
        dueFault("'", 0);
        dueFault("*", 0);
        dueFault("[a]", 0);
        dueSteps("abcdef", 1, 1, 1, 1, 1, 1);
        dueSteps("(f)(ea)", 1, 0, 0, 0, 1, 1);
        due("(".repeat(29) + "a" + ")".repeat(29), 1);
    }

    private static void digits() {
        Doc.says("TEXTS", "a digit from 2 to 9 ahead of it means that it is done so many times.");
        for (int n = 2; n <= 9; n++) {
            dueSteps(n + "c", 0, 0, n);
            dueSteps(n + "(cd)", 0, 0, n, n);
        }
        dueFault("1a", 0);
        dueFault("0a", 0);
        dueFault("/a", 0);
        dueFault(":a", 0);
        dueFault("1(a)", 0);
        dueFault("22a", 1);
        dueFault("2", 1);
        dueFault("2)", 1);
        dueFault("(2)", 2);
        dueFault("a2", 2);
        dueFault("(a2)", 3);
        dueSteps("2ab", 2, 1);
        dueSteps("a2b", 1, 2);
        dueSteps("(a)2b", 1, 2);
        dueSteps("2(a)b", 2, 1);
        dueSteps("2(a3b)c", 2, 6, 1);
        dueSteps("2(3(a)b)3(c)", 6, 2, 3);
        // So many times the whole item, not each of its items: a is inside before b comes.
        NudgeLocks x = Lead.typed("2(ab)");
        x.perform();
        Check.due("first in line by '2(ab)'", x.inLine(0), 0);
        Check.due("one ahead of the visitor 1", x.visitor(1, 6), 0);
        x = Lead.typed("2(ba)2a");
        x.perform();
        Check.due("first in line by '2(ba)2a'", x.inLine(0), 1);
    }

    private static void faults() {
        Doc.says("TEXTS", "The fault of the text is the index, from 0, of the first character that is not allowed at its "
                + "place,");
        dueFault("x", 0);
        dueFault("ax", 1);
        dueFault("axx", 1);
        dueFault("x(", 0);
        dueFault("(()", 2);
        dueFault("(a))", 3);
        dueFault("a)(", 1);
        dueFault("a)b)", 1);
        dueFault("((a)", 4);
        dueFault("a(b(c)x", 6);
        dueFault("2(3(a)4", 7);
        for (int at = 0; at < 60; at += 59) {
            dueFault("a".repeat(at) + "h" + "a".repeat(59 - at), at);
        }
        dueFault("a".repeat(59) + ")", 59);
        dueFault("9".repeat(60), 1);
    }

    /** All texts of up to six of eight characters, as far as a schedule could still begin so. */
    private static void faultsOfAllShortTexts() {
        follow("");
    }

    private static void follow(String text) {
        boolean schedule = isSchedule(text);
        if (calls > 400) {
            worn = new NudgeLocks();
            calls = 0;
        }
        calls += text.length() + 3;
        Lead.write(worn, text);
        int got = worn.perform();
        Check.holds("perform() of '" + text + "' answered " + got, schedule ? got > 0 : got == -100 - text.length());
        for (char c : "afgh129()".toCharArray()) {
            if (text.length() < 6 && beginsSchedule(text + c)) {
                follow(text + c);
            } else if (text.length() < 6) {
                // Not allowed at its place, whatever comes after it.
                calls += 2 * text.length() + 8;
                Lead.write(worn, text + c);
                Check.due("perform() of '" + text + c + "'", worn.perform(), -100 - text.length());
                Lead.write(worn, text + c + "a)");
                Check.due("perform() of '" + text + c + "a)'", worn.perform(), -100 - text.length());
            }
        }
    }

    private static boolean isSchedule(String text) {
        return SCHEDULES.computeIfAbsent(text, BoundsOfTexts::shrinksToItems);
    }

    /** Puts "i" for an item, from the inside out. */
    private static boolean shrinksToItems(String text) {
        String now = text.replaceAll("[2-9]?[abcdef]", "i");
        String before = "";
        while (!now.equals(before)) {
            before = now;
            now = now.replaceAll("[2-9]?\\(i+\\)", "i");
        }
        return now.matches("i+");
    }

    private static boolean beginsSchedule(String text) {
        String closed = text;
        for (int brackets = 0; brackets <= text.length(); brackets++) {
            if (isSchedule(closed) || isSchedule(text + "a" + ")".repeat(brackets))) {
                return true;
            }
            closed += ")";
        }
        return false;
    }

    private static void tooEarly() {
        Doc.says("TEXTS", "or the length of the text if it ends too early (the empty text does).");
        dueFault("", 0);
        dueFault("(", 1);
        dueFault("3", 1);
        dueFault("3(", 2);
        dueFault("(a", 2);
        dueFault("(a(b)", 5);
        dueFault("a9", 2);
        dueFault("(".repeat(60), 60);
        dueFault("a".repeat(59) + "2", 60);
        dueFault("a".repeat(59) + "(", 60);
        dueFault("(" + "a".repeat(59), 60);
        due("(" + "a".repeat(58) + ")", 58);
    }

    private static void carriedOut() {
        Doc.says("Promise 7", "Carries out the schedule of the text, which stays.");
        NudgeLocks x = Lead.typed("2(ab)c");
        NudgeLocks y = new NudgeLocks();
        Lead.steps(y, 0, 1, 0, 1, 2);
        Check.due("perform()", x.perform(), 5);
        Check.holds("all is as after the steps one by one", Lead.all(x).equals(Lead.all(y)));
        Check.due("the text's length", x.total(14), 6);
        Check.due("perform() again", x.perform(), 5);
        Check.due("steps", x.total(5), 10);

        Doc.says("Promise 7", "This is one change.");
        Lead.recorded("perform()", Lead.typed("9(a9b)"), NudgeLocks::perform);
        Lead.recorded("perform() with looks alone", looking(), NudgeLocks::perform);
        NudgeLocks z = Lead.typed("abc");
        z.perform();
        Check.due("states after three steps", z.total(13), 1);
        Check.due("undo()", z.undo(), 0);
        Check.due("steps after it", z.total(5), 0);

        Doc.says("Promise 7", "Returns how many steps are made;");
        due("a", 1);
        due("9a", 9);
        due("9(9a)", 81);
        Check.due("perform() with looks alone", looking().perform(), 3);
    }

    private static NudgeLocks looking() {
        NudgeLocks x = Lead.typed("3b");
        x.go(0);
        x.go(1);
        return x;
    }

    private static void faultAsAnswer() {
        Doc.says("Promise 7", "-100 minus the fault of the text if it has one (this is an error);");
        String[] texts = {"", "a)", "((", "9".repeat(60), "(".repeat(60)};
        int[] wants = {-100, -101, -102, -101, -160};
        for (int i = 0; i < texts.length; i++) {
            String text = texts[i];
            Lead.refused("perform() of '" + text + "'", x -> {
                Lead.steps(x, 1, 1);
                Lead.type(x, text);
            }, NudgeLocks::perform, wants[i]);
        }
    }

    private static void full() {
        Doc.says("Promise 7", "FULL if there would be more than 2000 steps.");
        due("2(5(5(5(8a))))", 2000);
        due("3(7(5(4(4a))))8(5(8a))", 2000);
        due("2(9(9(9a))9(9(3a))9a9a9aa)", 2000);
        due("3(9(8(9a))9a9a)a", 1999);
        due("3(9(8(9a))9a9a)aa", 2000);
        due("3(9(8(9a))9a9a)2a", 2000);
        due("3(9(8(9a))9a9a)3a", -3);
        due("3(9(8(9a))9a9a)a2a", -3);
        due("3(9(8(9a))9a9a)a(a)a", -3);
        due("2(5(5(5(8a))))b", -3);
        due("b2(5(5(5(8a))))", -3);
        due("3(9(8(9a))9a9aa)", -3);
        // So many that a count of 32 bits, and one of 64, would begin again.
        due("8(".repeat(10) + "8a" + ")".repeat(10), -3);
        due("9(".repeat(19) + "9a" + ")".repeat(19), -3);
        Lead.refused("perform() of 2001 steps", x -> {
            Lead.steps(x, 1, 1);
            Lead.type(x, "2(5(5(5(8a))))b");
        }, NudgeLocks::perform, -3);
        // The fault stands first.
        dueFault("9(9(9(9a)))(", 12);
        dueFault("9(9(9(9a", 8);
        dueFault("9(9(9(9a)))x", 11);
    }

    private static void typing() {
        Doc.says("Promise 9", "Appends a character to the text.");
        NudgeLocks x = new NudgeLocks();
        Lead.type(x, "ab");
        x.type(')');
        Check.due("it stands at the end", x.perform(), -102);
        x.clearText();
        Lead.type(x, "3f");
        Check.due("one after the other", x.perform(), 3);
        Check.due("steps of 5", x.visitor(5, 1), 3);

        Doc.says("Promise 9", "`character`: any character");
        char[] any = {0, 1, '\n', ' ', '(', '0', 'Z', 'a', 127, 128, 255, 256, 0x2028, 0xd800, 0xdfff, 0xfffe, 0xffff};
        NudgeLocks y = new NudgeLocks();
        for (int i = 0; i < any.length; i++) {
            Check.due("type(" + (int) any[i] + ")", y.type(any[i]), i + 1);
        }
        for (int c : new int[] {'a' + 256, 'f' + 65280, '2' + 256, '(' + 256}) {
            Check.due("a character that is no letter, though its last bits are: " + c,
                    Lead.typed(String.valueOf((char) c)).perform(), -100);
        }
    }

    private static void lengthThen() {
        Doc.says("Promise 9", "Returns the length of the text then;");
        NudgeLocks x = new NudgeLocks();
        for (int i = 1; i <= 60; i++) {
            Check.due("type() number " + i, x.type('a'), i);
        }
        Check.due("no change is recorded", x.total(13), 0);
    }

    private static void noRoom() {
        Doc.says("Promise 9", "FULL if it has 60 characters.");
        NudgeLocks x = Lead.typed("a".repeat(59));
        Check.due("type('b') with 59", x.type('b'), 60);
        Check.due("type('b') with 60", x.type('b'), -3);
        Check.due("type('b') with 60 again", x.type('b'), -3);
        Lead.refused("type('x') with 60", y -> Lead.type(y, "a".repeat(60)), y -> y.type('x'), -3);
        x.clearText();
        Check.due("type('b') after clearText()", x.type('b'), 1);
    }

    private static void clearing() {
        Doc.says("Promise 10", "Empties the text.");
        NudgeLocks x = Lead.typed("ab");
        x.clearText();
        Check.due("total(14)", x.total(14), 0);
        Check.due("perform()", x.perform(), -100);
        x.type('f');
        Check.due("perform() of a new text", x.perform(), 1);
        Check.due("steps of the old text's visitor", x.visitor(0, 1), 0);

        Doc.says("Promise 10", "Returns the length that it had.");
        for (int length : new int[] {0, 1, 59, 60}) {
            NudgeLocks y = Lead.typed("a".repeat(length));
            Check.due("clearText() of " + length, y.clearText(), length);
            Check.due("clearText() again", y.clearText(), 0);
            Check.due("no change is recorded", y.total(13), 0);
        }
        NudgeLocks z = Lead.typed("a".repeat(60));
        z.type('b');
        Check.due("clearText() after a type() that was refused", z.clearText(), 60);
    }
}
