import java.lang.reflect.Constructor;
import java.lang.reflect.Field;
import java.lang.reflect.Method;
import java.lang.reflect.Modifier;

/** The sentences of "What it is", of "The public face" and of "Not promised", and each promise's signature. */
final class BoundsOfTheFace {
    private static final String[] CONSTANTS = {"UNKNOWN = -1", "OUT_OF_RANGE = -2", "FULL = -3", "NOT_POSSIBLE = -4", "NONE = -5"};

    /** The methods, in the order of the promises 2 to 21. */
    private static final String[] METHODS = {
        "int build(int kind)", "int step(int visitor)", "int go(int visitor)", "int draw(int visitors, int steps)",
        "int shuffle(int number)", "int perform()", "int finish()", "int type(char character)", "int clearText()",
        "int undo()", "int keep()", "int restore()", "int visitor(int visitor, int what)", "int inLine(int place)",
        "int card(int card)", "int total(int what)", "int wouldLook(int visitor)", "int wouldTouch(int visitor)",
        "int stepsToFinish()", "int orders(int one, int other, int what)",
    };

    private BoundsOfTheFace() {
    }

    static void run() {
        fourLocks();
        visitorsAtThem();
        schedulesAndOrders();
        laterCalls();
        face();
        signatures();
        notPromised();
    }

    private static void fourLocks() {
        Doc.says("What it is", "Locks at which visitors queue, step by step:");
        for (int kind = 0; kind < 3; kind++) {
            NudgeLocks x = Lead.lock(kind);
            x.go(4);
            x.go(2);
            Check.due("first in line, kind " + kind, x.inLine(0), 4);
            Check.due("second in line, kind " + kind, x.inLine(1), 2);
        }

        Doc.says("What it is", "a queue in which each one knows only whom to nudge,");
        NudgeLocks nudges = Lead.lock(0);
        nudges.go(0);
        nudges.go(1);
        nudges.go(2);
        Check.due("whom 0 nudges", nudges.visitor(0, 5), 1);
        Check.due("whom 1 nudges", nudges.visitor(1, 5), 2);
        Check.due("whom 2 nudges", nudges.visitor(2, 5), -5);

        Doc.says("What it is", "a queue in which each one watches the one ahead,");
        NudgeLocks watching = Lead.lock(1);
        watching.go(0);
        watching.go(1);
        Check.due("the card that 1 watches is 0's own", watching.visitor(1, 6), watching.visitor(0, 7));

        Doc.says("What it is", "tickets,");
        NudgeLocks tickets = Lead.lock(2);
        tickets.step(3);
        tickets.step(1);
        Check.due("the ticket of 3", tickets.visitor(3, 8), 0);
        Check.due("the ticket of 1", tickets.visitor(1, 8), 1);

        Doc.says("What it is", "and a flag that is grabbed;");
        NudgeLocks grabbing = Lead.lock(3);
        Check.due("grabbed by nobody", grabbing.total(11), 0);
        grabbing.go(5);
        Check.due("grabbed by 5", grabbing.total(11), 1);
    }

    private static void visitorsAtThem() {
        Doc.says("What it is", "visitors who go on one step at a time in any order,");
        NudgeLocks x = Lead.lock(2);
        Lead.steps(x, 5, 0, 3, 0, 5);
        Check.due("5 is inside", x.total(1), 5);
        Check.due("steps of 0", x.visitor(0, 1), 2);

        Doc.says("What it is", "places that are changed in one step,");
        NudgeLocks y = Lead.lock(3);
        Lead.steps(y, 0, 1, 1);
        Check.due("the flag is looked at and up with one step", y.total(11), 1);
        Check.due("and its visitor inside with the same one", y.total(1), 1);

        Doc.says("What it is", "visitors who look again and again,");
        Lead.steps(y, 0, 0, 0);
        Check.due("looks of 0", y.visitor(0, 2), 3);

        Doc.says("What it is", "far touches that each step costs,");
        Check.due("far touches of 0", y.visitor(0, 4), 3);

        Doc.says("What it is", "who is inside and who waits in which order,");
        Check.due("who is inside", x.total(1), 5);
        Check.due("who waits behind it", x.inLine(1), 0);
        Check.due("who waits behind this one", x.inLine(2), 3);

        Doc.says("What it is", "whom a visitor knows and who is not yet known by the one ahead,");
        NudgeLocks z = Lead.lock(0);
        z.go(0);
        Lead.steps(z, 1, 1);
        Check.due("0 does not yet know 1", z.visitor(0, 5), -5);
        Check.due("one who is not yet known", z.total(4), 1);
        z.step(1);
        Check.due("0 knows 1", z.visitor(0, 5), 1);
        Check.due("nobody who is not yet known", z.total(4), 0);
    }

    private static void schedulesAndOrders() {
        Doc.says("What it is", "schedules with repeats that are read from a text with the places of faults,");
        NudgeLocks x = Lead.typed("3(ab)");
        Check.due("perform()", x.perform(), 6);
        Lead.type(x, ")");
        Check.due("perform() of a fault at 5", x.perform(), -105);

        Doc.says("What it is", "steps by lot,");
        NudgeLocks y = Lead.lock(3);
        y.draw(63, 200);
        Check.due("steps", y.total(5), 200);

        Doc.says("What it is", "all orders of steps that there can be, two who could be inside at once,");
        Check.due("orders(0, 1, 0)", new NudgeLocks().orders(0, 1, 0), 43);
        Check.due("orders(0, 1, 1)", new NudgeLocks().orders(0, 1, 1), 0);

        Doc.says("What it is", "counts, undo and a snapshot.");
        NudgeLocks z = new NudgeLocks();
        z.step(0);
        Check.due("total(5)", z.total(5), 1);
        Check.due("keep()", z.keep(), 1);
        Check.due("undo()", z.undo(), 0);
        Check.due("total(5) after undo()", z.total(5), 0);
        Check.due("restore()", z.restore(), 1);
        Check.due("total(5) after restore()", z.total(5), 1);
    }

    /** Free as to what is answered; LANGUAGE.md still wants every call to end, and none to throw. */
    private static void laterCalls() {
        Doc.says("What it is", "what later calls answer is free.");
        for (int kind = 0; kind < 4; kind++) {
            NudgeLocks x = Lead.lock(kind);
            Lead.type(x, "9(abcdef)9f");
            for (int call = 0; call < 20000; call++) {
                anyCall(x, call);
            }
            Check.holds("20000 calls end, kind " + kind, true);
        }
    }

    private static void anyCall(NudgeLocks x, int call) {
        int any = call * 1103515245 + 12345 >>> 7;
        switch (call % 9) {
            case 0: x.perform(); break;
            case 1: x.draw(any % 63 + 1, any % 200 + 1); break;
            case 2: x.go(any % 6); break;
            case 3: x.step(any % 6); break;
            case 4: x.orders(any % 6, any / 6 % 6, any % 3); break;
            case 5: x.stepsToFinish(); break;
            case 6: x.keep(); break;
            case 7: x.undo(); break;
            default: Lead.all(x); break;
        }
    }

    private static void face() {
        Class<?> there = NudgeLocks.class;
        Doc.says("The public face", "public final class NudgeLocks {");
        Check.holds("public and final, of no package", there.getModifiers() == (Modifier.PUBLIC | Modifier.FINAL)
                && there.getPackageName().isEmpty());
        for (String constant : CONSTANTS) {
            Doc.says("The public face", "public static final int " + constant + ";");
            constant(constant);
        }
        Doc.says("The public face", "public NudgeLocks();");
        constructor();
        for (String method : METHODS) {
            Doc.says("The public face", "public " + method + ";");
            method(method);
        }
        // Behind the last method stands the bracket that closes the class.
        Doc.says("The public face", METHODS[METHODS.length - 1] + "; }");
        int visible = 0;
        for (Method m : there.getDeclaredMethods()) {
            visible += Modifier.isPrivate(m.getModifiers()) ? 0 : 1;
        }
        for (Field f : there.getDeclaredFields()) {
            visible += Modifier.isPrivate(f.getModifiers()) ? 0 : 1;
        }
        Check.due("members that can be seen", visible, METHODS.length + CONSTANTS.length);
    }

    private static void constant(String line) {
        String[] parts = line.split(" = ");
        int due = Integer.parseInt(parts[1]);
        try {
            Field f = NudgeLocks.class.getField(parts[0]);
            Check.holds(line + " is public, static, final and an int", f.getType() == int.class
                    && f.getModifiers() == (Modifier.PUBLIC | Modifier.STATIC | Modifier.FINAL));
            Check.due(line, f.getInt(null), due);
        } catch (ReflectiveOperationException none) {
            Check.holds(line + " is there", false);
        }
    }

    private static void constructor() {
        Constructor<?>[] all = NudgeLocks.class.getDeclaredConstructors();
        Check.due("constructors", all.length, 1);
        Check.holds("it is public, without arguments", all[0].getModifiers() == Modifier.PUBLIC && all[0].getParameterCount() == 0);
        Check.holds("it makes objects of their own", new NudgeLocks().step(0) == 1 && new NudgeLocks().total(5) == 0);
    }

    /** Looks at a method by its signature, as "int draw(int visitors, int steps)". */
    private static void method(String signature) {
        String name = signature.substring(4, signature.indexOf('('));
        String list = signature.substring(signature.indexOf('(') + 1, signature.indexOf(')'));
        String[] names = list.isEmpty() ? new String[0] : list.split(", ");
        Class<?>[] types = new Class<?>[names.length];
        for (int i = 0; i < names.length; i++) {
            types[i] = names[i].startsWith("char ") ? char.class : int.class;
        }
        try {
            Method m = NudgeLocks.class.getDeclaredMethod(name, types);
            Check.holds(signature + " is public and answers an int", m.getReturnType() == int.class
                    && m.getModifiers() == Modifier.PUBLIC && m.getExceptionTypes().length == 0);
        } catch (NoSuchMethodException none) {
            Check.holds(signature + " is there", false);
        }
    }

    private static void signatures() {
        Doc.says("Promise 1", "`NudgeLocks()`:");
        constructor();
        for (int i = 0; i < METHODS.length; i++) {
            Doc.says("Promise " + (i + 2), "`" + METHODS[i] + "`:");
            method(METHODS[i]);
        }
    }

    private static void notPromised() {
        Doc.saysNothingToTest("Not promised", "How the state is held inside the object is free, as are the speed of each call, the "
                + "text of toString and the behaviour of equals and hashCode.");
        Doc.saysNothingToTest("Not promised", "Use of one object from several threads at once is not promised to be safe.");
        Doc.saysNothingToTest("Not promised", "Nothing is promised beyond the answers and state changes described above, and nothing "
                + "about an object after its 512th call.");
    }
}
