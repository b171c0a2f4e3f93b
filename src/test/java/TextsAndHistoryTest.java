/** Promises 9 to 13: the text, the history and the snapshot. */
public final class TextsAndHistoryTest {
    private TextsAndHistoryTest() {
    }

    public static void main(String[] args) {
        typing();
        undo();
        undoBringsAllBack();
        snapshot();
        snapshotBringsAllBack();
        Check.end();
    }

    private static void typing() {
        NudgeLocks x = new NudgeLocks();
        Check.due("clearText() of nothing", x.clearText(), 0);
        char[] odd = {0, 'a', 200, '\uffff', '\ud800', ' '};
        for (int i = 0; i < 60; i++) {
            Check.due("type " + i, x.type(odd[i % odd.length]), i + 1);
        }
        Check.due("type into a full text", x.type('a'), -3);
        Check.due("length of a full text", x.total(14), 60);
        Check.due("clearText() of 60", x.clearText(), 60);
        Check.due("length after it", x.total(14), 0);
        Check.due("clearText() again", x.clearText(), 0);
        x.type('c');
        Check.due("the old text is gone", x.perform(), 1);
        Check.due("texts are no changes", x.total(13), 1);
        x.undo();
        Check.due("undo leaves the text", x.total(14), 1);
        x.keep();
        x.clearText();
        x.type('d');
        x.type('d');
        x.restore();
        Check.due("restore leaves the text", x.total(14), 2);
    }

    private static void undo() {
        NudgeLocks x = new NudgeLocks();
        Check.due("undo() of nothing", x.undo(), -5);
        for (int i = 0; i < 6; i++) {
            x.shuffle(100 + i);
            Check.due("states in the history", x.total(13), Math.min(i + 1, 4));
        }
        for (int i = 0; i < 4; i++) {
            Check.due("undo()", x.undo(), 3 - i);
            Check.due("x then", x.total(12), 104 - i);
        }
        Check.due("undo() at the end", x.undo(), -5);
        Check.due("x at the end", x.total(12), 101);
        x.shuffle(9);
        Check.due("a change after undos", x.undo(), 0);
        Check.due("x of it", x.total(12), 101);
        x.keep();
        Check.due("keep is no change", x.total(13), 0);
        x.shuffle(3);
        x.undo();
        Check.due("undo is no change", x.undo(), -5);
    }

    private static void undoBringsAllBack() {
        for (int kind = 0; kind < 4; kind++) {
            NudgeLocks x = new NudgeLocks();
            x.build(kind);
            x.draw(63, 37);
            String before = all(x);
            for (int v = 0; v < 6; v++) {
                x.step(v);
                x.undo();
                Check.holds("step and undo, kind " + kind, before.equals(all(x)));
            }
            x.draw(63, 50);
            x.shuffle(5);
            x.finish();
            x.build((kind + 1) % 4);
            Check.holds("four changes, kind " + kind, !before.equals(all(x)));
            x.undo();
            x.undo();
            x.undo();
            x.undo();
            Check.holds("four undos, kind " + kind, before.equals(all(x)));
        }
    }

    private static void snapshot() {
        NudgeLocks x = new NudgeLocks();
        Check.due("restore() of nothing", x.restore(), -5);
        Check.due("nothing was recorded", x.total(13), 0);
        Check.due("keep() with all away", x.keep(), 0);
        x.step(1);
        x.step(4);
        Check.due("restore()", x.restore(), 0);
        Check.due("restore is a change", x.total(13), 3);
        Check.due("undo() of it", x.undo(), 2);
        Check.due("two are back", x.total(3), 2);
        Check.due("keep() in place of an earlier one", x.keep(), 2);
        x.undo();
        x.undo();
        Check.due("undo leaves the snapshot", x.restore(), 2);
        Check.due("the snapshot stays", x.restore(), 2);
        Check.due("four as the most", x.restore() + x.restore() + x.restore() + x.total(13), 10);
    }

    private static void snapshotBringsAllBack() {
        for (int kind = 0; kind < 4; kind++) {
            NudgeLocks x = new NudgeLocks();
            x.build(kind);
            x.draw(63, 41);
            String before = all(x);
            int present = x.total(3);
            Check.due("keep(), kind " + kind, x.keep(), present);
            x.draw(63, 41);
            x.finish();
            x.build(3 - kind);
            x.draw(7, 10);
            Check.due("restore(), kind " + kind, x.restore(), present);
            Check.holds("all is back, kind " + kind, before.equals(all(x)));
            x.draw(63, 3);
            x.restore();
            Check.holds("all is back again, kind " + kind, before.equals(all(x)));
        }
    }

    /** Everything that can be seen, but for the history and the text. */
    private static String all(NudgeLocks x) {
        StringBuilder s = new StringBuilder();
        for (int what = 0; what <= 12; what++) {
            s.append(x.total(what)).append(' ');
        }
        for (int v = 0; v < 6; v++) {
            for (int what = 0; what <= 10; what++) {
                s.append(x.visitor(v, what)).append(' ');
            }
        }
        for (int card = 0; card < 7; card++) {
            s.append(x.card(card)).append(' ').append(x.inLine(card)).append(' ');
        }
        return s.toString();
    }
}
