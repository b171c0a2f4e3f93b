import java.io.IOException;
import java.lang.reflect.Constructor;
import java.lang.reflect.Field;
import java.lang.reflect.Method;
import java.lang.reflect.Modifier;
import java.nio.file.Files;
import java.nio.file.Path;
import java.util.List;
import java.util.TreeSet;

/** The public face, and those rules of LANGUAGE.md that can be seen from the class's text. Runs in the project's folder. */
public final class RulesTest {
    private static final String[] FACE = {
        "build int", "step int", "go int", "draw int int", "shuffle int", "perform", "finish", "type char", "clearText",
        "undo", "keep", "restore", "visitor int int", "inLine int", "card int", "total int", "wouldLook int",
        "wouldTouch int", "stepsToFinish", "orders int int int",
    };

    private RulesTest() {
    }

    public static void main(String[] args) throws IOException {
        constants();
        members();
        Path file = Path.of("src/main/java/NudgeLocks.java");
        signs(Files.readString(file));
        RulesOfTheSource.look(file);
        Check.end();
    }

    private static void constants() {
        Check.due("UNKNOWN", NudgeLocks.UNKNOWN, -1);
        Check.due("OUT_OF_RANGE", NudgeLocks.OUT_OF_RANGE, -2);
        Check.due("FULL", NudgeLocks.FULL, -3);
        Check.due("NOT_POSSIBLE", NudgeLocks.NOT_POSSIBLE, -4);
        Check.due("NONE", NudgeLocks.NONE, -5);
    }

    private static void members() {
        Class<?> face = NudgeLocks.class;
        Check.holds("public and final", Modifier.isPublic(face.getModifiers()) && Modifier.isFinal(face.getModifiers()));
        Check.holds("no class above", face.getSuperclass() == Object.class && face.getInterfaces().length == 0);
        TreeSet<String> wanted = new TreeSet<>(List.of(FACE));
        TreeSet<String> names = new TreeSet<>();
        for (String f : FACE) {
            names.add(f.split(" ")[0]);
        }
        TreeSet<String> there = new TreeSet<>();
        for (Method m : face.getDeclaredMethods()) {
            StringBuilder s = new StringBuilder(m.getName());
            for (Class<?> p : m.getParameterTypes()) {
                s.append(' ').append(p.getName());
            }
            if (Modifier.isPrivate(m.getModifiers())) {
                Check.holds("a private method has a name of its own: " + s, !names.contains(m.getName()));
            } else {
                there.add(s.toString());
                Check.holds("public, of an object, int: " + s, Modifier.isPublic(m.getModifiers())
                        && !Modifier.isStatic(m.getModifiers()) && m.getReturnType() == int.class);
            }
        }
        Check.holds("the methods are the document's: " + there, there.equals(wanted));
        int publicFields = 0;
        for (Field f : face.getDeclaredFields()) {
            if (!Modifier.isPrivate(f.getModifiers())) {
                publicFields++;
            }
            Check.holds("static means final: " + f, !Modifier.isStatic(f.getModifiers())
                    || Modifier.isFinal(f.getModifiers()));
        }
        Check.due("constants", publicFields, 5);
        Constructor<?>[] constructors = face.getDeclaredConstructors();
        Check.holds("one public constructor without arguments", constructors.length == 1
                && Modifier.isPublic(constructors[0].getModifiers()) && constructors[0].getParameterCount() == 0);
    }

    private static void signs(String whole) {
        String code = whole.replaceAll("(?s)/\\*.*?\\*/", "").replaceAll("//[^\n]*", "");
        for (int i = 0; i < code.length(); i++) {
            Check.holds("rule 4: a plain sign at " + i, code.charAt(i) > 0 && code.charAt(i) < 128);
        }
    }
}
