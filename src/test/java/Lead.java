import java.util.function.Consumer;

/** Leads locks to where a test wants them, and tells all that can be seen of them. */
final class Lead {
    /** A call on an object, with its answer. */
    interface Call {
        int on(NudgeLocks x);
    }

    /** The stages that there are, by kind. */
    static final int[][] STAGES = {{0, 1, 2, 3, 4, 5, 6, 7}, {0, 1, 3, 4}, {0, 3, 4}, {0, 3, 4}};
    /** Numbers that are no visitor. */
    static final int[] NO_VISITORS = {-1, 6, 7, -6, Integer.MIN_VALUE, Integer.MAX_VALUE};

    private Lead() {
    }

    static NudgeLocks lock(int kind) {
        NudgeLocks x = new NudgeLocks();
        x.build(kind);
        return x;
    }

    static NudgeLocks typed(String text) {
        NudgeLocks x = new NudgeLocks();
        type(x, text);
        return x;
    }

    static void type(NudgeLocks x, String text) {
        for (int i = 0; i < text.length(); i++) {
            x.type(text.charAt(i));
        }
    }

    static void write(NudgeLocks x, String text) {
        x.clearText();
        type(x, text);
    }

    static void steps(NudgeLocks x, int... visitors) {
        for (int v : visitors) {
            x.step(v);
        }
    }

    /**
     * A new lock at which v has come to the stage. At the stages 2, 3, 6 and 7 the visitor w is there too: ahead of v
     * and inside at 2 and 3 (so that v would look at 3), behind v at 6 (v not yet knows it) and 7.
     */
    static NudgeLocks at(int kind, int stage, int v, int w) {
        NudgeLocks x = lock(kind);
        switch (stage) {
            case 0: break;
            case 1: x.step(v); break;
            case 2: x.go(w); steps(x, v, v); break;
            case 3: x.go(w); x.go(v); break;
            case 4: x.go(v); break;
            case 5: x.go(v); x.step(v); break;
            case 6: x.go(v); steps(x, w, w, v, v); break;
            default: x.go(v); x.go(w); x.step(v); break;
        }
        Check.due("the stage to which " + v + " was led, kind " + kind, x.visitor(v, 0), stage);
        return x;
    }

    /** Everything that can be seen of the state, in 93 calls; the history's and the text's lengths are not in it. */
    static String all(NudgeLocks x) {
        StringBuilder s = new StringBuilder();
        for (int what = 0; what <= 12; what++) {
            s.append(x.total(what)).append(' ');
        }
        for (int v = 0; v < 6; v++) {
            for (int what = 0; what <= 10; what++) {
                s.append(x.visitor(v, what)).append(' ');
            }
        }
        for (int card = 0; card < 7; card++) {
            s.append(x.card(card)).append(' ').append(x.inLine(card)).append(' ');
        }
        return s.toString();
    }

    /** Everything that can be seen of an object and of what it keeps, in some 390 calls, which change it. */
    static String future(NudgeLocks x) {
        StringBuilder s = new StringBuilder(all(x));
        s.append(x.total(13)).append(' ').append(x.total(14)).append(' ');
        s.append(x.undo()).append(' ').append(all(x));
        for (int i = 0; i < 4; i++) {
            s.append(x.undo()).append(' ').append(x.total(5)).append(' ').append(x.total(12)).append(' ');
        }
        s.append(x.restore()).append(' ').append(all(x));
        s.append(x.perform()).append(' ').append(all(x));
        return s.toString();
    }

    /** Asks for the answer of a call that is refused or answers NONE, and for nothing changed by it. */
    static void refused(String name, Consumer<NudgeLocks> lead, Call call, int want) {
        NudgeLocks x = new NudgeLocks();
        NudgeLocks twin = new NudgeLocks();
        lead.accept(x);
        lead.accept(twin);
        Check.due(name, call.on(x), want);
        Check.holds("nothing changed by " + name, future(x).equals(future(twin)));
    }

    /** Asks for one more state in the history after a change, with which all is again as it was. */
    static void recorded(String name, NudgeLocks x, Call call) {
        String before = all(x);
        int states = x.total(13);
        int answer = call.on(x);
        Check.holds(name + " is no error and not NONE", answer >= 0);
        Check.due("states after " + name, x.total(13), Math.min(states + 1, 4));
        Check.due("undo() after " + name, x.undo(), Math.min(states, 3));
        Check.holds("all is as before " + name, before.equals(all(x)));
    }
}
