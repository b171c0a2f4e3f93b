/** Long runs of calls by lot, on the class and on the model at once; every answer is to be the same. */
public final class ModelTest {
    private static final int RUNS = 1500;
    private static final int CALLS = 512;
    private static final String[] SCHEDULES = {
        "3(a2bc)", "9(9(9(2a)))", "a", "2(abcdef)4(fedcba)", "9(9(9(9a)))", "5(abc", "a)b", "2(2(2(2(2(2a)b)c)d)e)f",
        "22a", "()", "a1b", "A", "4(5(5(5(4a))))", "2(5(5(5(5a))))9(9(9a))", "4(5(5(5(4b))))c", "(((((a)))))",
    };

    private static final int[] FAR_OUT = {
        Integer.MIN_VALUE, Integer.MIN_VALUE + 1, -(1 << 30), -64, 64, 1 << 16, 1 << 30, Integer.MAX_VALUE - 1, Integer.MAX_VALUE,
    };

    private static long seed;
    private static int largestOrders = 0;
    private static int performed = 0;

    private ModelTest() {
    }

    private static int lot(int below) {
        seed ^= seed << 13;
        seed ^= seed >>> 7;
        seed ^= seed << 17;
        return (int) Long.remainderUnsigned(seed, below);
    }

    /** Mostly the given argument, now and then one that is far out of every range. */
    private static int mostly(int argument) {
        return lot(60) == 0 ? FAR_OUT[lot(FAR_OUT.length)] : argument;
    }

    private static int anyVisitor() {
        return mostly(lot(40) == 0 ? lot(5) * 7 - 14 : lot(6));
    }

    public static void main(String[] args) {
        for (int run = 0; run < RUNS && Check.allWell(); run++) {
            seed = 88172645463325252L + run * 7919L;
            run(run);
        }
        Check.holds("there were schedules that were carried out", performed > RUNS);
        System.out.println("most states in orders: " + largestOrders);
        Check.end();
    }

    private static void run(int run) {
        NudgeLocks x = new NudgeLocks();
        Model m = new Model();
        int mood = lot(4);
        for (int i = 0; i < CALLS && Check.allWell(); i++) {
            String name = "run " + run + " call " + i + ": ";
            if (lot(4) < 2) {
                read(name, x, m);
            } else {
                change(name, x, m, mood);
            }
        }
        largestOrders = Math.max(largestOrders, m.largestOrders);
    }

    private static void change(String name, NudgeLocks x, Model m, int mood) {
        int v = anyVisitor();
        switch (lot(mood == 0 ? 8 : 24)) {
            case 0: {
                int kind = mostly(lot(20) == 0 ? lot(9) - 3 : lot(4));
                Check.due(name + "build(" + kind + ")", x.build(kind), m.build(kind));
                break;
            }
            case 1: {
                int set = mostly(lot(10) == 0 ? lot(80) - 5 : 1 + lot(63));
                int steps = mostly(lot(10) == 0 ? lot(220) - 5 : 1 + lot(30));
                Check.due(name + "draw(" + set + ", " + steps + ")", x.draw(set, steps), m.draw(set, steps));
                break;
            }
            case 2: {
                int number = mostly(lot(3) == 0 ? m.total(12) : (int) (seed >>> 33) - (lot(9) == 0 ? 1 << 30 : 0));
                Check.due(name + "shuffle(" + number + ")", x.shuffle(number), m.shuffle(number));
                break;
            }
            case 3: {
                write(name, x, m);
                int got = x.perform();
                performed += got > 0 ? 1 : 0;
                Check.due(name + "perform()", got, m.perform());
                break;
            }
            case 4: Check.due(name + "finish()", x.finish(), m.finish()); break;
            case 5: Check.due(name + "undo()", x.undo(), m.undo()); break;
            case 6: Check.due(name + "keep()", x.keep(), m.keep()); break;
            case 7: Check.due(name + "restore()", x.restore(), m.restore()); break;
            case 8: case 9: case 10: Check.due(name + "go(" + v + ")", x.go(v), m.go(v)); break;
            default: Check.due(name + "step(" + v + ")", x.step(v), m.step(v)); break;
        }
    }

    private static void write(String name, NudgeLocks x, Model m) {
        if (lot(4) != 0) {
            Check.due(name + "clearText()", x.clearText(), m.clearText());
        }
        if (lot(2) == 0) {
            String schedule = SCHEDULES[lot(SCHEDULES.length)];
            for (int i = 0; i < schedule.length(); i++) {
                typeOne(name, x, m, schedule.charAt(i));
            }
            return;
        }
        int open = 0;
        for (int n = lot(14); n > 0; n--) {
            int c = lot(12);
            if (c == 0) {
                typeOne(name, x, m, '(');
                open++;
            } else if (c == 1 && open > 0) {
                typeOne(name, x, m, ')');
                open--;
            } else if (c == 2) {
                typeOne(name, x, m, (char) ('2' + lot(8)));
            } else if (c == 3 && lot(5) == 0) {
                typeOne(name, x, m, (char) lot(65536));
            } else {
                typeOne(name, x, m, (char) ('a' + lot(6)));
            }
        }
        while (open > 0 && lot(20) != 0) {
            typeOne(name, x, m, ')');
            open--;
        }
    }

    private static void typeOne(String name, NudgeLocks x, Model m, char c) {
        Check.due(name + "type(" + (int) c + ")", x.type(c), m.type(c));
    }

    private static void read(String name, NudgeLocks x, Model m) {
        int v = anyVisitor();
        int w = anyVisitor();
        int what = mostly(lot(18) - 1);
        switch (lot(8)) {
            case 0: Check.due(name + "inLine(" + what + ")", x.inLine(what), m.inLine(what)); break;
            case 1: Check.due(name + "card(" + what + ")", x.card(what), m.card(what)); break;
            case 2: Check.due(name + "total(" + what + ")", x.total(what), m.total(what)); break;
            case 3: Check.due(name + "wouldLook(" + v + ")", x.wouldLook(v), m.wouldLook(v)); break;
            case 4: Check.due(name + "wouldTouch(" + v + ")", x.wouldTouch(v), m.wouldTouch(v)); break;
            case 5: Check.due(name + "stepsToFinish()", x.stepsToFinish(), m.stepsToFinish()); break;
            case 6: {
                int about = mostly(lot(30) == 0 ? lot(7) - 2 : lot(3));
                Check.due(name + "orders(" + v + ", " + w + ", " + about + ")",
                        x.orders(v, w, about), m.orders(v, w, about));
                break;
            }
            default: Check.due(name + "visitor(" + v + ", " + what + ")", x.visitor(v, what), m.visitor(v, what));
        }
    }
}
