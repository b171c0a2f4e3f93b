/** Four kinds of locks at which six visitors queue, step by step; ../shared/DOC.md tells what each call does. */
public final class NudgeLocks {
    public static final int UNKNOWN = -1;
    public static final int OUT_OF_RANGE = -2;
    public static final int FULL = -3;
    public static final int NOT_POSSIBLE = -4;
    public static final int NONE = -5;

    private static final int VISITORS = 6;
    private static final int CARDS = 7;

    private static final int NUDGES = 0;
    private static final int WATCHING = 1;
    private static final int TICKETS = 2;
    private static final int GRABBING = 3;
    private static final int KINDS = 4;

    private static final int AWAY = 0;
    private static final int READY = 1;
    private static final int UNKNOWN_AHEAD = 2;
    private static final int WAITING = 3;
    private static final int INSIDE = 4;
    private static final int LEAVING = 5;
    private static final int EXPECTING = 6;
    private static final int NUDGING = 7;
    private static final int STAGES = 8;

    private static final int DOWN = 0;
    private static final int UP = 1;

    // Nobody is kept as the answer that stands for it, so that it need not be translated.
    private static final int NOBODY = NONE;

    private static final int TEXT_ROOM = 60;
    private static final int HISTORY_ROOM = 4;
    private static final int MOST_DRAWS = 200;
    private static final int MOST_PERFORMED = 2000;
    private static final int MOST_ORDERS = 300;
    private static final int FAULT_BASE = -100;

    // Far above what any run needs; they only let the loops' ends be seen.
    private static final int MOST_AT_ONCE = 1000;
    private static final int MOST_ROUNDS = 100000;

    private final State state;
    private final State trial;
    private final State snapshot;
    private boolean hasSnapshot;
    private final State[] history;
    private int remembered;
    private final char[] text;
    private int length;
    private final Schedule schedule;
    private final Explorer explorer;

    public NudgeLocks() {
        state = new State();
        trial = new State();
        snapshot = new State();
        hasSnapshot = false;
        history = new State[HISTORY_ROOM];
        for (int i = 0; i < HISTORY_ROOM; i++) {
            history[i] = new State();
        }
        remembered = 0;
        text = new char[TEXT_ROOM];
        length = 0;
        schedule = new Schedule();
        explorer = new Explorer();
    }

    // ---- changes

    public int build(int kind) {
        if (kind < 0 || kind >= KINDS) {
            return UNKNOWN;
        }
        if (state.present() > 0) {
            return NOT_POSSIBLE;
        }
        remember();
        int previous = state.lock.kind();
        state.lock.reset(kind);
        return previous;
    }

    public int step(int visitor) {
        if (!isVisitor(visitor)) {
            return UNKNOWN;
        }
        remember();
        state.advance(visitor);
        return state.lock.stage(visitor);
    }

    public int go(int visitor) {
        if (!isVisitor(visitor)) {
            return UNKNOWN;
        }
        if (state.lock.waits(visitor)) {
            return NONE;
        }
        remember();
        return state.advanceFreely(visitor);
    }

    public int draw(int visitors, int steps) {
        if (visitors < 1 || visitors >= 1 << VISITORS || steps < 1 || steps > MOST_DRAWS) {
            return OUT_OF_RANGE;
        }
        remember();
        int before = state.sum(State.VISITS);
        for (int i = 0; i < steps; i++) {
            state.advance(state.lot(visitors));
        }
        return state.sum(State.VISITS) - before;
    }

    public int shuffle(int number) {
        if (number < 0) {
            return OUT_OF_RANGE;
        }
        if (number == state.x) {
            return NONE;
        }
        remember();
        int previous = state.x;
        state.x = number;
        return previous;
    }

    public int perform() {
        int fault = Schedule.fault(text, length);
        if (fault != NONE) {
            return FAULT_BASE - fault;
        }
        int steps = schedule.expand(text, length);
        if (steps == FULL) {
            return FULL;
        }
        remember();
        for (int i = 0; i < steps; i++) {
            state.advance(schedule.visitorAt(i));
        }
        return steps;
    }

    public int finish() {
        if (state.present() == 0) {
            return NONE;
        }
        remember();
        return state.advanceAll();
    }

    // ---- texts

    public int type(char character) {
        if (length >= TEXT_ROOM) {
            return FULL;
        }
        text[length] = character;
        length++;
        return length;
    }

    public int clearText() {
        int previous = length;
        length = 0;
        return previous;
    }

    // ---- history

    public int undo() {
        if (remembered < 1) {
            return NONE;
        }
        remembered--;
        state.copyFrom(history[remembered]);
        return remembered;
    }

    public int keep() {
        snapshot.copyFrom(state);
        hasSnapshot = true;
        return state.present();
    }

    public int restore() {
        if (!hasSnapshot) {
            return NONE;
        }
        remember();
        state.copyFrom(snapshot);
        return state.present();
    }

    // ---- what there is

    public int visitor(int visitor, int what) {
        if (!isVisitor(visitor)) {
            return UNKNOWN;
        }
        switch (what) {
            case 0: return state.lock.stage(visitor);
            case 1: return state.count(State.STEPS, visitor);
            case 2: return state.count(State.LOOKS, visitor);
            case 3: return state.count(State.VISITS, visitor);
            case 4: return state.count(State.TOUCHES, visitor);
            case 5: return state.lock.nextOf(visitor);
            case 6: return state.lock.aheadOf(visitor);
            case 7: return state.lock.ownCard(visitor);
            case 8: return state.lock.ticket(visitor);
            case 9: return state.lock.flagOf(visitor);
            case 10: return state.placeOf(visitor);
            default: return OUT_OF_RANGE;
        }
    }

    public int inLine(int place) {
        if (place < 0) {
            return OUT_OF_RANGE;
        }
        return state.visitorAt(place);
    }

    public int card(int card) {
        if (!isCard(card)) {
            return UNKNOWN;
        }
        if (state.lock.kind() != WATCHING) {
            return NONE;
        }
        return state.lock.cardFlag(card);
    }

    public int total(int what) {
        switch (what) {
            case 0: return state.lock.kind();
            case 1: return state.lock.whoIsInside();
            case 2: return state.lock.tail();
            case 3: return state.present();
            case 4: return state.lock.countAt(UNKNOWN_AHEAD);
            case 5: return state.sum(State.STEPS);
            case 6: return state.sum(State.LOOKS);
            case 7: return state.sum(State.VISITS);
            case 8: return state.sum(State.TOUCHES);
            case 9: return state.lock.given();
            case 10: return state.lock.served();
            case 11: return state.lock.grabFlag();
            case 12: return state.x;
            case 13: return remembered;
            case 14: return length;
            default: return OUT_OF_RANGE;
        }
    }

    // ---- what would be; nothing changes

    public int wouldLook(int visitor) {
        if (!isVisitor(visitor)) {
            return UNKNOWN;
        }
        return state.lock.waits(visitor) ? 1 : 0;
    }

    public int wouldTouch(int visitor) {
        if (!isVisitor(visitor)) {
            return UNKNOWN;
        }
        return state.lock.touches(visitor);
    }

    public int stepsToFinish() {
        trial.copyFrom(state);
        return trial.advanceAll();
    }

    public int orders(int one, int other, int what) {
        if (!isVisitor(one) || !isVisitor(other)) {
            return UNKNOWN;
        }
        if (what < 0 || what > 2 || one == other) {
            return OUT_OF_RANGE;
        }
        if (!explorer.explore(state.lock, one, other)) {
            return NONE;
        }
        switch (what) {
            case 0: return explorer.found();
            case 1: return explorer.countBothInside(one, other);
            default: return explorer.countStuck(one, other);
        }
    }

    private static boolean isVisitor(int number) {
        return number >= 0 && number < VISITORS;
    }

    private static boolean isCard(int number) {
        return number >= 0 && number < CARDS;
    }

    private void remember() {
        if (remembered >= HISTORY_ROOM) {
            dropOldest();
        }
        history[remembered].copyFrom(state);
        remembered++;
    }

    private void dropOldest() {
        State oldest = history[0];
        for (int i = 1; i < HISTORY_ROOM; i++) {
            history[i - 1] = history[i];
        }
        history[HISTORY_ROOM - 1] = oldest;
        remembered = HISTORY_ROOM - 1;
    }

    /** A lock with its visitors' stages: all that orders() compares. */
    private static final class Lock {
        // All stands in one row, so that a lock is copied and compared in one go.
        private static final int STAGE = 0;
        private static final int NEXT = STAGE + VISITORS;
        private static final int FLAG = NEXT + VISITORS;
        private static final int AHEAD = FLAG + VISITORS;
        private static final int OWN = AHEAD + VISITORS;
        private static final int WATCHED = OWN + VISITORS;
        private static final int TICKET = WATCHED + VISITORS;
        private static final int CARD_FLAG = TICKET + VISITORS;
        private static final int TAIL = CARD_FLAG + CARDS;
        private static final int GIVEN = TAIL + 1;
        private static final int SERVED = GIVEN + 1;
        private static final int GRABBED = SERVED + 1;
        private static final int KIND = GRABBED + 1;
        private static final int CELLS = KIND + 1;

        // What a step costs, by kind and stage.
        private static final int[] FAR_TOUCHES = {
            0, 1, 1, 0, 0, 1, 0, 1,
            0, 1, 0, 1, 0, 0, 0, 0,
            1, 0, 0, 1, 1, 0, 0, 0,
            0, 0, 0, 1, 1, 0, 0, 0,
        };

        private final int[] cells;

        Lock() {
            cells = new int[CELLS];
            reset(NUDGES);
        }

        void reset(int kind) {
            for (int v = 0; v < VISITORS; v++) {
                cells[STAGE + v] = AWAY;
                cells[NEXT + v] = NOBODY;
                cells[FLAG + v] = DOWN;
                cells[AHEAD + v] = NOBODY;
                cells[OWN + v] = kind == WATCHING ? v : NONE;
                cells[WATCHED + v] = NONE;
                cells[TICKET + v] = NONE;
            }
            for (int card = 0; card < CARDS; card++) {
                cells[CARD_FLAG + card] = DOWN;
            }
            cells[TAIL] = kind == WATCHING ? CARDS - 1 : NOBODY;
            cells[GIVEN] = 0;
            cells[SERVED] = 0;
            cells[GRABBED] = DOWN;
            cells[KIND] = kind;
        }

        void copyFrom(Lock other) {
            System.arraycopy(other.cells, 0, cells, 0, CELLS);
        }

        boolean sameAs(Lock other) {
            for (int i = 0; i < CELLS; i++) {
                if (cells[i] != other.cells[i]) {
                    return false;
                }
            }
            return true;
        }

        int kind() {
            return cells[KIND];
        }

        int stage(int visitor) {
            return cells[STAGE + visitor];
        }

        int nextOf(int visitor) {
            return cells[NEXT + visitor];
        }

        int aheadOf(int visitor) {
            return kind() == WATCHING ? cells[WATCHED + visitor] : cells[AHEAD + visitor];
        }

        int ownCard(int visitor) {
            return cells[OWN + visitor];
        }

        int ticket(int visitor) {
            return cells[TICKET + visitor];
        }

        int flagOf(int visitor) {
            return kind() == NUDGES ? cells[FLAG + visitor] : NONE;
        }

        int cardFlag(int card) {
            return isCard(card) ? cells[CARD_FLAG + card] : NONE;
        }

        int tail() {
            return cells[TAIL];
        }

        int given() {
            return kind() == TICKETS ? cells[GIVEN] : NONE;
        }

        int served() {
            return kind() == TICKETS ? cells[SERVED] : NONE;
        }

        int grabFlag() {
            return kind() == GRABBING ? cells[GRABBED] : NONE;
        }

        int countAt(int stage) {
            int count = 0;
            for (int v = 0; v < VISITORS; v++) {
                if (stage(v) == stage) {
                    count++;
                }
            }
            return count;
        }

        int whoIsInside() {
            for (int v = 0; v < VISITORS; v++) {
                if (stage(v) == INSIDE) {
                    return v;
                }
            }
            return NONE;
        }

        boolean queues(int visitor) {
            switch (kind()) {
                case NUDGES: return stage(visitor) >= UNKNOWN_AHEAD;
                case WATCHING: return stage(visitor) >= WAITING;
                case TICKETS: return stage(visitor) != AWAY;
                default: return false;
            }
        }

        int touches(int visitor) {
            int at = kind() * STAGES + stage(visitor);
            return at >= 0 && at < FAR_TOUCHES.length ? FAR_TOUCHES[at] : 0;
        }

        /** Tells whether the visitor's next step would be a look. */
        boolean waits(int visitor) {
            int stage = stage(visitor);
            if (stage == EXPECTING) {
                return cells[NEXT + visitor] == NOBODY;
            }
            return stage == WAITING && !mayEnter(visitor);
        }

        private boolean mayEnter(int visitor) {
            switch (kind()) {
                case NUDGES: return cells[FLAG + visitor] == DOWN;
                case WATCHING: return cardFlag(cells[WATCHED + visitor]) == DOWN;
                case TICKETS: return cells[TICKET + visitor] == cells[SERVED];
                default: return cells[GRABBED] == DOWN;
            }
        }

        void advance(int visitor) {
            if (waits(visitor)) {
                return;
            }
            switch (kind()) {
                case NUDGES: advanceNudges(visitor); break;
                case WATCHING: advanceWatching(visitor); break;
                case TICKETS: advanceTickets(visitor); break;
                default: advanceGrabbing(visitor); break;
            }
        }

        private void advanceNudges(int visitor) {
            switch (stage(visitor)) {
                case AWAY:
                    cells[NEXT + visitor] = NOBODY;
                    cells[FLAG + visitor] = UP;
                    moveTo(visitor, READY);
                    break;
                case READY:
                    cells[AHEAD + visitor] = cells[TAIL];
                    cells[TAIL] = visitor;
                    moveTo(visitor, cells[AHEAD + visitor] == NOBODY ? INSIDE : UNKNOWN_AHEAD);
                    break;
                case UNKNOWN_AHEAD:
                    setNext(cells[AHEAD + visitor], visitor);
                    moveTo(visitor, WAITING);
                    break;
                case WAITING:
                    cells[AHEAD + visitor] = NOBODY;
                    moveTo(visitor, INSIDE);
                    break;
                case INSIDE:
                    moveTo(visitor, cells[NEXT + visitor] == NOBODY ? LEAVING : NUDGING);
                    break;
                case LEAVING:
                    leaveTail(visitor);
                    break;
                case EXPECTING:
                    moveTo(visitor, NUDGING);
                    break;
                default:
                    lowerFlag(cells[NEXT + visitor]);
                    moveTo(visitor, AWAY);
                    break;
            }
        }

        private void setNext(int visitor, int next) {
            if (isVisitor(visitor)) {
                cells[NEXT + visitor] = next;
            }
        }

        private void lowerFlag(int visitor) {
            if (isVisitor(visitor)) {
                cells[FLAG + visitor] = DOWN;
            }
        }

        private void leaveTail(int visitor) {
            if (cells[TAIL] == visitor) {
                cells[TAIL] = NOBODY;
                moveTo(visitor, AWAY);
            } else {
                moveTo(visitor, EXPECTING);
            }
        }

        private void advanceWatching(int visitor) {
            switch (stage(visitor)) {
                case AWAY:
                    setCardFlag(cells[OWN + visitor], UP);
                    moveTo(visitor, READY);
                    break;
                case READY:
                    cells[WATCHED + visitor] = cells[TAIL];
                    cells[TAIL] = cells[OWN + visitor];
                    moveTo(visitor, WAITING);
                    break;
                case WAITING:
                    moveTo(visitor, INSIDE);
                    break;
                default:
                    setCardFlag(cells[OWN + visitor], DOWN);
                    cells[OWN + visitor] = cells[WATCHED + visitor];
                    cells[WATCHED + visitor] = NONE;
                    moveTo(visitor, AWAY);
                    break;
            }
        }

        private void setCardFlag(int card, int flag) {
            if (isCard(card)) {
                cells[CARD_FLAG + card] = flag;
            }
        }

        private void advanceTickets(int visitor) {
            switch (stage(visitor)) {
                case AWAY:
                    cells[TICKET + visitor] = cells[GIVEN];
                    cells[GIVEN]++;
                    moveTo(visitor, WAITING);
                    break;
                case WAITING:
                    moveTo(visitor, INSIDE);
                    break;
                default:
                    cells[SERVED]++;
                    // Without a ticket again: two who are away are alike, whatever they once drew.
                    cells[TICKET + visitor] = NONE;
                    moveTo(visitor, AWAY);
                    break;
            }
        }

        private void advanceGrabbing(int visitor) {
            switch (stage(visitor)) {
                case AWAY:
                    moveTo(visitor, WAITING);
                    break;
                case WAITING:
                    cells[GRABBED] = UP;
                    moveTo(visitor, INSIDE);
                    break;
                default:
                    cells[GRABBED] = DOWN;
                    moveTo(visitor, AWAY);
                    break;
            }
        }

        private void moveTo(int visitor, int stage) {
            cells[STAGE + visitor] = stage;
        }
    }

    /** Everything that the history and the snapshot keep: the lock, the line, the counts and x. */
    private static final class State {
        private static final int STEPS = 0;
        private static final int LOOKS = STEPS + VISITORS;
        private static final int VISITS = LOOKS + VISITORS;
        private static final int TOUCHES = VISITS + VISITORS;
        private static final int COUNTS = TOUCHES + VISITORS;

        private final Lock lock;
        private final int[] counts;
        private final int[] line;
        private int lineLength;
        private int x;

        State() {
            lock = new Lock();
            counts = new int[COUNTS];
            line = new int[VISITORS];
            lineLength = 0;
            x = 1;
        }

        void copyFrom(State other) {
            lock.copyFrom(other.lock);
            System.arraycopy(other.counts, 0, counts, 0, COUNTS);
            System.arraycopy(other.line, 0, line, 0, VISITORS);
            lineLength = other.lineLength;
            x = other.x;
        }

        int count(int counted, int visitor) {
            return counts[counted + visitor];
        }

        int sum(int counted) {
            int sum = 0;
            for (int v = 0; v < VISITORS; v++) {
                sum += counts[counted + v];
            }
            return sum;
        }

        int present() {
            return VISITORS - lock.countAt(AWAY);
        }

        int visitorAt(int place) {
            return place >= 0 && place < lineLength ? line[place] : NONE;
        }

        int placeOf(int visitor) {
            for (int place = 0; place < lineLength; place++) {
                if (line[place] == visitor) {
                    return place;
                }
            }
            return NONE;
        }

        void advance(int visitor) {
            boolean queued = lock.queues(visitor);
            counts[STEPS + visitor]++;
            counts[TOUCHES + visitor] += lock.touches(visitor);
            if (lock.waits(visitor)) {
                counts[LOOKS + visitor]++;
            }
            lock.advance(visitor);
            if (lock.stage(visitor) == AWAY) {
                counts[VISITS + visitor]++;
            }
            if (!queued && lock.queues(visitor)) {
                joinLine(visitor);
            } else if (queued && !lock.queues(visitor)) {
                leaveLine(visitor);
            }
        }

        private void joinLine(int visitor) {
            if (lineLength < VISITORS) {
                line[lineLength] = visitor;
                lineLength++;
            }
        }

        private void leaveLine(int visitor) {
            int left = 0;
            for (int place = 0; place < lineLength; place++) {
                if (line[place] != visitor) {
                    line[left] = line[place];
                    left++;
                }
            }
            lineLength = left;
        }

        /** Steps at least once, until the visitor is inside or away or would look; returns how many steps. */
        int advanceFreely(int visitor) {
            int steps = 0;
            do {
                advance(visitor);
                steps++;
            } while (steps < MOST_AT_ONCE && !pauses(visitor));
            return steps;
        }

        private boolean pauses(int visitor) {
            int stage = lock.stage(visitor);
            return stage == INSIDE || stage == AWAY || lock.waits(visitor);
        }

        /** Lets all come back, round by round; returns how many steps. */
        int advanceAll() {
            int steps = 0;
            for (int round = 0; round < MOST_ROUNDS && present() > 0; round++) {
                for (int v = 0; v < VISITORS; v++) {
                    if (lock.stage(v) != AWAY) {
                        advance(v);
                        steps++;
                    }
                }
            }
            return steps;
        }

        /** Draws one of a set of visitors, which is not empty. */
        int lot(int visitors) {
            // The remainder is below 2147483648, so it fits.
            x = (int) ((x * 1103515245L + 12345L) % 2147483648L);
            int size = Integer.bitCount(visitors);
            int lesser = size > 0 ? x / 65536 % size : 0;
            int last = 0;
            for (int v = 0; v < VISITORS; v++) {
                if ((visitors & 1 << v) != 0) {
                    last = v;
                    if (lesser == 0) {
                        return v;
                    }
                    lesser--;
                }
            }
            return last;
        }
    }

    /** Reads a text as a schedule, and spreads it out as single steps. */
    private static final class Schedule {
        private final byte[] plan;
        private final int[] starts;
        private final int[] repeats;
        private int planned;
        private int depth;

        Schedule() {
            plan = new byte[MOST_PERFORMED];
            starts = new int[TEXT_ROOM];
            repeats = new int[TEXT_ROOM];
            planned = 0;
            depth = 0;
        }

        /** The index of the text's fault, or NONE. */
        static int fault(char[] text, int length) {
            int open = 0;
            boolean afterItem = false;
            boolean afterDigit = false;
            for (int i = 0; i < length && i < text.length; i++) {
                char c = text[i];
                if (isLetter(c)) {
                    afterItem = true;
                    afterDigit = false;
                } else if (c == '(') {
                    open++;
                    afterItem = false;
                    afterDigit = false;
                } else if (c == ')' && afterItem && open > 0) {
                    open--;
                } else if (isDigit(c) && !afterDigit) {
                    afterItem = false;
                    afterDigit = true;
                } else {
                    return i;
                }
            }
            return afterItem && open == 0 ? NONE : length;
        }

        private static boolean isLetter(char c) {
            return c >= 'a' && c < 'a' + VISITORS;
        }

        private static boolean isDigit(char c) {
            return c >= '2' && c <= '9';
        }

        int visitorAt(int i) {
            return i >= 0 && i < planned ? plan[i] : 0;
        }

        /** Spreads out a text without a fault; returns how many steps it has, or FULL. */
        int expand(char[] text, int length) {
            planned = 0;
            depth = 0;
            int times = 1;
            for (int i = 0; i < length && i < text.length; i++) {
                char c = text[i];
                boolean hasRoom = true;
                if (isDigit(c)) {
                    times = c - '0';
                } else if (c == '(') {
                    openBracket(times);
                    times = 1;
                } else if (c == ')') {
                    hasRoom = closeBracket();
                } else {
                    hasRoom = append(c) && repeat(planned - 1, times);
                    times = 1;
                }
                if (!hasRoom) {
                    return FULL;
                }
            }
            return planned;
        }

        private void openBracket(int times) {
            if (depth < TEXT_ROOM) {
                starts[depth] = planned;
                repeats[depth] = times;
                depth++;
            }
        }

        private boolean closeBracket() {
            if (depth < 1) {
                return false;
            }
            depth--;
            return repeat(starts[depth], repeats[depth]);
        }

        private boolean append(char letter) {
            if (planned >= MOST_PERFORMED || !isLetter(letter)) {
                return false;
            }
            plan[planned] = (byte) (letter - 'a');
            planned++;
            return true;
        }

        /** Makes what is planned from the start on stand there so many times; false if there is no room. */
        private boolean repeat(int start, int times) {
            int size = planned - start;
            // Every item has a step, so what has no room now would have none later.
            if (start + size * times > MOST_PERFORMED) {
                return false;
            }
            for (int i = 1; i < times; i++) {
                System.arraycopy(plan, start, plan, planned, size);
                planned += size;
            }
            return true;
        }
    }

    /** Finds all states that two visitors can reach, each one making steps until it comes back. */
    private static final class Explorer {
        private static final int ONE = 1;
        private static final int OTHER = 2;
        private static final int BOTH = ONE | OTHER;

        // The rows of places are made when they are first needed, and used again.
        private final Lock[] locks;
        private final int[] back;
        private final Lock trial;
        private int found;

        Explorer() {
            locks = new Lock[MOST_ORDERS];
            back = new int[MOST_ORDERS];
            trial = new Lock();
            found = 0;
        }

        int found() {
            return found;
        }

        /** Tells whether there are few enough states; only then the counts below hold. */
        boolean explore(Lock from, int one, int other) {
            found = 0;
            trial.copyFrom(from);
            append(0);
            for (int i = 0; i < found && i < MOST_ORDERS; i++) {
                if (!follow(i, one, ONE) || !follow(i, other, OTHER)) {
                    return false;
                }
            }
            return true;
        }

        private boolean follow(int i, int visitor, int bit) {
            Lock lock = locks[i];
            if (lock == null || (back[i] & bit) != 0) {
                return true;
            }
            trial.copyFrom(lock);
            trial.advance(visitor);
            int backThen = trial.stage(visitor) == AWAY ? back[i] | bit : back[i];
            return isKnown(backThen) || append(backThen);
        }

        private boolean isKnown(int backThen) {
            for (int i = 0; i < found && i < MOST_ORDERS; i++) {
                if (back[i] == backThen && locks[i] != null && trial.sameAs(locks[i])) {
                    return true;
                }
            }
            return false;
        }

        private boolean append(int backThen) {
            if (found >= MOST_ORDERS) {
                return false;
            }
            if (locks[found] == null) {
                locks[found] = new Lock();
            }
            locks[found].copyFrom(trial);
            back[found] = backThen;
            found++;
            return true;
        }

        int countBothInside(int one, int other) {
            int count = 0;
            for (int i = 0; i < found && i < MOST_ORDERS; i++) {
                Lock lock = locks[i];
                if (lock != null && lock.stage(one) == INSIDE && lock.stage(other) == INSIDE) {
                    count++;
                }
            }
            return count;
        }

        int countStuck(int one, int other) {
            int count = 0;
            for (int i = 0; i < found && i < MOST_ORDERS; i++) {
                if (isStuck(i, one, other)) {
                    count++;
                }
            }
            return count;
        }

        private boolean isStuck(int i, int one, int other) {
            Lock lock = locks[i];
            if (lock == null || back[i] == BOTH) {
                return false;
            }
            boolean oneIsBlocked = (back[i] & ONE) != 0 || lock.waits(one);
            boolean otherIsBlocked = (back[i] & OTHER) != 0 || lock.waits(other);
            return oneIsBlocked && otherIsBlocked;
        }
    }
}
