import java.util.ArrayDeque;
import java.util.ArrayList;
import java.util.Arrays;
import java.util.Deque;
import java.util.HashMap;
import java.util.List;
import java.util.Map;
import java.util.TreeSet;

/**
 * The document again, written in another way, to compare the class with: far touches are counted from the places
 * that a step looks at, the line from the times of coming, a schedule's steps by recursion, orders by a map of texts.
 */
final class Model {
    static final int UNKNOWN = -1;
    static final int OUT_OF_RANGE = -2;
    static final int FULL = -3;
    static final int NOT_POSSIBLE = -4;
    static final int NONE = -5;

    private static final class Visitor {
        int stage;
        int steps;
        int looks;
        int visits;
        int touches;
        Integer next;
        Integer ahead;
        Integer own;
        Integer watched;
        Integer ticket;
        Integer cameAt;
        boolean flag;

        Visitor copy() {
            Visitor v = new Visitor();
            v.stage = stage;
            v.steps = steps;
            v.looks = looks;
            v.visits = visits;
            v.touches = touches;
            v.next = next;
            v.ahead = ahead;
            v.own = own;
            v.watched = watched;
            v.ticket = ticket;
            v.cameAt = cameAt;
            v.flag = flag;
            return v;
        }

        void forget() {
            next = null;
            ahead = null;
            own = null;
            watched = null;
            ticket = null;
            flag = false;
        }
    }

    private static final class World {
        int kind;
        Integer tail;
        int given;
        int served;
        boolean grabbed;
        long x = 1;
        int time;
        Visitor[] visitors = new Visitor[6];
        boolean[] cards = new boolean[7];
        TreeSet<String> touched = new TreeSet<>();

        static World first() {
            World w = new World();
            for (int v = 0; v < 6; v++) {
                w.visitors[v] = new Visitor();
            }
            w.put(0);
            return w;
        }

        void put(int newKind) {
            kind = newKind;
            given = 0;
            served = 0;
            grabbed = false;
            cards = new boolean[7];
            for (Visitor v : visitors) {
                v.forget();
            }
            tail = null;
            if (kind == 1) {
                tail = 6;
                for (int v = 0; v < 6; v++) {
                    visitors[v].own = v;
                }
            }
        }

        World copy() {
            World w = new World();
            w.kind = kind;
            w.tail = tail;
            w.given = given;
            w.served = served;
            w.grabbed = grabbed;
            w.x = x;
            w.time = time;
            for (int v = 0; v < 6; v++) {
                w.visitors[v] = visitors[v].copy();
            }
            w.cards = cards.clone();
            return w;
        }

        /** What orders() tells states apart by. */
        String face() {
            StringBuilder s = new StringBuilder();
            s.append(tail).append(' ').append(given).append(' ').append(served).append(' ').append(grabbed);
            s.append(Arrays.toString(cards));
            for (Visitor v : visitors) {
                s.append('/').append(v.stage).append(' ').append(v.next).append(' ').append(v.ahead).append(' ')
                        .append(v.own).append(' ').append(v.watched).append(' ').append(v.ticket).append(' ')
                        .append(v.flag);
            }
            return s.toString();
        }

        int away() {
            int n = 0;
            for (Visitor v : visitors) {
                if (v.stage == 0) {
                    n++;
                }
            }
            return n;
        }

        boolean cardFlag(int card) {
            touchCard(card);
            return cards[card];
        }

        void touchCard(int card) {
            String owner = "nobody";
            for (int v = 0; v < 6; v++) {
                if (visitors[v].own == card) {
                    owner = "v" + v;
                }
            }
            touched.add("card" + card + "@" + owner);
        }

        void touch(String place, int owner) {
            touched.add(place + "@" + (owner < 0 ? "nobody" : "v" + owner));
        }

        /** Makes a step; returns whether it is a look. */
        boolean move(int k) {
            Visitor v = visitors[k];
            int stage = v.stage;
            boolean queued = queues(v);
            touched.clear();
            switch (kind) {
                case 0 -> nudges(k, v);
                case 1 -> watching(v);
                case 2 -> tickets(v);
                default -> grabbing(v);
            }
            v.steps++;
            for (String place : touched) {
                if (!place.endsWith("@v" + k)) {
                    v.touches++;
                }
            }
            if (v.stage == stage) {
                v.looks++;
            }
            if (v.stage == 0) {
                v.visits++;
            }
            time++;
            if (!queues(v)) {
                v.cameAt = null;
            } else if (!queued) {
                v.cameAt = time;
            }
            return v.stage == stage;
        }

        boolean queues(Visitor v) {
            return kind == 0 && v.stage >= 2 || kind == 1 && v.stage >= 3 || kind == 2 && v.stage != 0;
        }

        void nudges(int k, Visitor v) {
            switch (v.stage) {
                case 0 -> {
                    touch("next" + k, k);
                    touch("flag" + k, k);
                    v.next = null;
                    v.flag = true;
                    v.stage = 1;
                }
                case 1 -> {
                    touch("tail", -1);
                    if (tail == null) {
                        v.stage = 4;
                    } else {
                        v.ahead = tail;
                        v.stage = 2;
                    }
                    tail = k;
                }
                case 2 -> {
                    touch("next" + v.ahead, v.ahead);
                    visitors[v.ahead].next = k;
                    v.stage = 3;
                }
                case 3 -> {
                    touch("flag" + k, k);
                    if (!v.flag) {
                        v.stage = 4;
                        v.ahead = null;
                    }
                }
                case 4 -> {
                    touch("next" + k, k);
                    v.stage = v.next == null ? 5 : 7;
                }
                case 5 -> {
                    touch("tail", -1);
                    if (tail == k) {
                        tail = null;
                        v.stage = 0;
                    } else {
                        v.stage = 6;
                    }
                }
                case 6 -> {
                    touch("next" + k, k);
                    if (v.next != null) {
                        v.stage = 7;
                    }
                }
                default -> {
                    touch("next" + k, k);
                    touch("flag" + v.next, v.next);
                    visitors[v.next].flag = false;
                    v.stage = 0;
                }
            }
        }

        void watching(Visitor v) {
            switch (v.stage) {
                case 0 -> {
                    touchCard(v.own);
                    cards[v.own] = true;
                    v.stage = 1;
                }
                case 1 -> {
                    touch("tail", -1);
                    v.watched = tail;
                    tail = v.own;
                    v.stage = 3;
                }
                case 3 -> {
                    if (!cardFlag(v.watched)) {
                        v.stage = 4;
                    }
                }
                default -> {
                    touchCard(v.own);
                    cards[v.own] = false;
                    v.own = v.watched;
                    v.watched = null;
                    v.stage = 0;
                }
            }
        }

        void tickets(Visitor v) {
            switch (v.stage) {
                case 0 -> {
                    touch("given", -1);
                    v.ticket = given++;
                    v.stage = 3;
                }
                case 3 -> {
                    touch("served", -1);
                    if (v.ticket == served) {
                        v.stage = 4;
                    }
                }
                default -> {
                    touch("served", -1);
                    served++;
                    v.ticket = null;
                    v.stage = 0;
                }
            }
        }

        void grabbing(Visitor v) {
            switch (v.stage) {
                case 0 -> v.stage = 3;
                case 3 -> {
                    touch("flag", -1);
                    if (!grabbed) {
                        grabbed = true;
                        v.stage = 4;
                    }
                }
                default -> {
                    touch("flag", -1);
                    grabbed = false;
                    v.stage = 0;
                }
            }
        }

        int finishAll() {
            int n = 0;
            while (away() < 6) {
                for (int v = 0; v < 6; v++) {
                    if (visitors[v].stage != 0) {
                        move(v);
                        n++;
                    }
                }
            }
            return n;
        }

        List<Integer> line() {
            List<Integer> line = new ArrayList<>();
            for (int v = 0; v < 6; v++) {
                if (visitors[v].cameAt != null) {
                    line.add(v);
                }
            }
            line.sort((a, b) -> visitors[a].cameAt - visitors[b].cameAt);
            return line;
        }
    }

    private static final class Fault extends Exception {
        final int at;

        Fault(int at) {
            this.at = at;
        }
    }

    private World now = World.first();
    private World kept;
    private final Deque<World> history = new ArrayDeque<>();
    private String text = "";
    private int reading;

    int largestOrders = 0;

    private static boolean bad(int v) {
        return v < 0 || v > 5;
    }

    private void record() {
        history.addLast(now.copy());
        if (history.size() > 4) {
            history.removeFirst();
        }
    }

    int build(int kind) {
        if (kind < 0 || kind > 3) {
            return UNKNOWN;
        }
        if (now.away() != 6) {
            return NOT_POSSIBLE;
        }
        record();
        int was = now.kind;
        now.put(kind);
        return was;
    }

    int step(int v) {
        if (bad(v)) {
            return UNKNOWN;
        }
        record();
        now.move(v);
        return now.visitors[v].stage;
    }

    int go(int v) {
        if (bad(v)) {
            return UNKNOWN;
        }
        if (wouldLook(v) == 1) {
            return NONE;
        }
        record();
        int n = 0;
        while (true) {
            now.move(v);
            n++;
            int stage = now.visitors[v].stage;
            if (stage == 4 || stage == 0 || wouldLook(v) == 1) {
                return n;
            }
        }
    }

    int draw(int set, int steps) {
        if (set < 1 || set > 63 || steps < 1 || steps > 200) {
            return OUT_OF_RANGE;
        }
        record();
        List<Integer> members = new ArrayList<>();
        for (int v = 0; v < 6; v++) {
            if ((set >> v) % 2 == 1) {
                members.add(v);
            }
        }
        int visits = total(7);
        for (int i = 0; i < steps; i++) {
            now.x = (now.x * 1103515245L + 12345L) % (1L << 31);
            now.move(members.get((int) (now.x / 65536 % members.size())));
        }
        return total(7) - visits;
    }

    int shuffle(int number) {
        if (number < 0) {
            return OUT_OF_RANGE;
        }
        if (now.x == number) {
            return NONE;
        }
        record();
        int was = (int) now.x;
        now.x = number;
        return was;
    }

    int perform() {
        List<Integer> plan;
        try {
            reading = 0;
            plan = items(0);
        } catch (Fault f) {
            return -100 - f.at;
        }
        if (plan == null) {
            return FULL;
        }
        record();
        for (int v : plan) {
            now.move(v);
        }
        return plan.size();
    }

    private char peek() throws Fault {
        if (reading >= text.length()) {
            throw new Fault(text.length());
        }
        return text.charAt(reading);
    }

    /** The steps of a schedule, or null if there are too many; reads to its ")" or the text's end. */
    private List<Integer> items(int depth) throws Fault {
        List<Integer> all = new ArrayList<>();
        boolean tooMany = false;
        do {
            List<Integer> some = item(depth);
            tooMany |= some == null || all.size() + some.size() > 2000;
            if (!tooMany) {
                all.addAll(some);
            }
        } while (reading < text.length() && !(depth > 0 && text.charAt(reading) == ')'));
        return tooMany ? null : all;
    }

    private List<Integer> item(int depth) throws Fault {
        int times = 1;
        if ("23456789".indexOf(peek()) >= 0) {
            times = text.charAt(reading) - '0';
            reading++;
        }
        List<Integer> once;
        int letter = "abcdef".indexOf(peek());
        if (letter >= 0) {
            reading++;
            once = List.of(letter);
        } else if (text.charAt(reading) == '(') {
            reading++;
            once = items(depth + 1);
            if (peek() != ')') {
                throw new Fault(reading);
            }
            reading++;
        } else {
            throw new Fault(reading);
        }
        if (once == null || once.size() * times > 2000) {
            return null;
        }
        List<Integer> all = new ArrayList<>();
        for (int i = 0; i < times; i++) {
            all.addAll(once);
        }
        return all;
    }

    int finish() {
        if (now.away() == 6) {
            return NONE;
        }
        record();
        return now.finishAll();
    }

    int type(char c) {
        if (text.length() == 60) {
            return FULL;
        }
        text += c;
        return text.length();
    }

    int clearText() {
        int was = text.length();
        text = "";
        return was;
    }

    int undo() {
        if (history.isEmpty()) {
            return NONE;
        }
        now = history.removeLast();
        return history.size();
    }

    int keep() {
        kept = now.copy();
        return 6 - now.away();
    }

    int restore() {
        if (kept == null) {
            return NONE;
        }
        record();
        now = kept.copy();
        return 6 - now.away();
    }

    private static int orNone(Integer i) {
        return i == null ? NONE : i;
    }

    int visitor(int v, int what) {
        if (bad(v)) {
            return UNKNOWN;
        }
        if (what < 0 || what > 10) {
            return OUT_OF_RANGE;
        }
        Visitor w = now.visitors[v];
        int[] plain = {w.stage, w.steps, w.looks, w.visits, w.touches};
        if (what < 5) {
            return plain[what];
        }
        return switch (what) {
            case 5 -> now.kind == 0 ? orNone(w.next) : NONE;
            case 6 -> now.kind == 0 && (w.stage == 2 || w.stage == 3) ? orNone(w.ahead)
                    : now.kind == 1 && (w.stage == 3 || w.stage == 4) ? orNone(w.watched) : NONE;
            case 7 -> now.kind == 1 ? orNone(w.own) : NONE;
            case 8 -> now.kind == 2 && w.stage != 0 ? orNone(w.ticket) : NONE;
            case 9 -> now.kind == 0 ? (w.flag ? 1 : 0) : NONE;
            default -> now.line().contains(v) ? now.line().indexOf(v) : NONE;
        };
    }

    int inLine(int place) {
        if (place < 0) {
            return OUT_OF_RANGE;
        }
        List<Integer> line = now.line();
        return place < line.size() ? line.get(place) : NONE;
    }

    int card(int card) {
        if (card < 0 || card > 6) {
            return UNKNOWN;
        }
        return now.kind != 1 ? NONE : now.cards[card] ? 1 : 0;
    }

    int total(int what) {
        if (what < 0 || what > 14) {
            return OUT_OF_RANGE;
        }
        int inside = NONE;
        int unknown = 0;
        int[] sums = new int[4];
        for (int v = 0; v < 6; v++) {
            Visitor w = now.visitors[v];
            if (w.stage == 4) {
                inside = v;
            }
            if (w.stage == 2) {
                unknown++;
            }
            sums[0] += w.steps;
            sums[1] += w.looks;
            sums[2] += w.visits;
            sums[3] += w.touches;
        }
        return switch (what) {
            case 0 -> now.kind;
            case 1 -> inside;
            case 2 -> orNone(now.tail);
            case 3 -> 6 - now.away();
            case 4 -> unknown;
            case 5, 6, 7, 8 -> sums[what - 5];
            case 9 -> now.kind == 2 ? now.given : NONE;
            case 10 -> now.kind == 2 ? now.served : NONE;
            case 11 -> now.kind != 3 ? NONE : now.grabbed ? 1 : 0;
            case 12 -> (int) now.x;
            case 13 -> history.size();
            default -> text.length();
        };
    }

    int wouldLook(int v) {
        return bad(v) ? UNKNOWN : now.copy().move(v) ? 1 : 0;
    }

    int wouldTouch(int v) {
        if (bad(v)) {
            return UNKNOWN;
        }
        World w = now.copy();
        w.move(v);
        return w.visitors[v].touches - now.visitors[v].touches;
    }

    int stepsToFinish() {
        return now.copy().finishAll();
    }

    int orders(int one, int other, int what) {
        if (bad(one) || bad(other)) {
            return UNKNOWN;
        }
        if (what < 0 || what > 2 || one == other) {
            return OUT_OF_RANGE;
        }
        Map<String, int[]> seen = new HashMap<>();
        explore(seen, now, one, other, false, false);
        largestOrders = Math.max(largestOrders, seen.size());
        if (seen.size() > 300) {
            return NONE;
        }
        int both = 0;
        int stuck = 0;
        for (int[] is : seen.values()) {
            both += is[0];
            stuck += is[1];
        }
        return what == 0 ? seen.size() : what == 1 ? both : stuck;
    }

    private void explore(Map<String, int[]> seen, World w, int one, int other, boolean oneBack, boolean otherBack) {
        String face = w.face() + oneBack + otherBack;
        if (seen.containsKey(face)) {
            return;
        }
        World a = w.copy();
        World b = w.copy();
        boolean oneLooks = a.move(one);
        boolean otherLooks = b.move(other);
        boolean stuck = !oneBack && !otherBack ? oneLooks && otherLooks
                : oneBack && !otherBack ? otherLooks : otherBack && !oneBack && oneLooks;
        boolean both = w.visitors[one].stage == 4 && w.visitors[other].stage == 4;
        seen.put(face, new int[] {both ? 1 : 0, stuck ? 1 : 0});
        if (!oneBack) {
            explore(seen, a, one, other, a.visitors[one].stage == 0, otherBack);
        }
        if (!otherBack) {
            explore(seen, b, one, other, oneBack, b.visitors[other].stage == 0);
        }
    }
}
