import java.io.IOException;
import java.lang.reflect.Constructor;
import java.lang.reflect.Field;
import java.lang.reflect.Method;
import java.lang.reflect.Modifier;
import java.nio.file.Files;
import java.nio.file.Path;
import java.util.ArrayList;
import java.util.List;
import java.util.TreeSet;
import java.util.regex.Matcher;
import java.util.regex.Pattern;

/** The public face, and those rules of LANGUAGE.md that can be seen from the class or its text. Runs in the project's folder. */
public final class RulesTest {
    private static final String[] FACE = {
        "build int", "step int", "go int", "draw int int", "shuffle int", "perform", "finish", "type char", "clearText",
        "undo", "keep", "restore", "visitor int int", "inLine int", "card int", "total int", "wouldLook int",
        "wouldTouch int", "stepsToFinish", "orders int int int",
    };

    private RulesTest() {
    }

    public static void main(String[] args) throws IOException {
        constants();
        members();
        insideClasses();
        text(Files.readString(Path.of("src/main/java/NudgeLocks.java")));
        Check.end();
    }

    private static void constants() {
        Check.due("UNKNOWN", NudgeLocks.UNKNOWN, -1);
        Check.due("OUT_OF_RANGE", NudgeLocks.OUT_OF_RANGE, -2);
        Check.due("FULL", NudgeLocks.FULL, -3);
        Check.due("NOT_POSSIBLE", NudgeLocks.NOT_POSSIBLE, -4);
        Check.due("NONE", NudgeLocks.NONE, -5);
    }

    private static void members() {
        Class<?> face = NudgeLocks.class;
        Check.holds("public and final", Modifier.isPublic(face.getModifiers()) && Modifier.isFinal(face.getModifiers()));
        Check.holds("no class above", face.getSuperclass() == Object.class && face.getInterfaces().length == 0);
        TreeSet<String> wanted = new TreeSet<>(List.of(FACE));
        TreeSet<String> names = new TreeSet<>();
        for (String f : FACE) {
            names.add(f.split(" ")[0]);
        }
        TreeSet<String> there = new TreeSet<>();
        for (Method m : face.getDeclaredMethods()) {
            StringBuilder s = new StringBuilder(m.getName());
            for (Class<?> p : m.getParameterTypes()) {
                s.append(' ').append(p.getName());
            }
            if (Modifier.isPrivate(m.getModifiers())) {
                Check.holds("a private method has a name of its own: " + s, !names.contains(m.getName()));
            } else {
                there.add(s.toString());
                Check.holds("public, of an object, int: " + s, Modifier.isPublic(m.getModifiers())
                        && !Modifier.isStatic(m.getModifiers()) && m.getReturnType() == int.class);
            }
        }
        Check.holds("the methods are the document's: " + there, there.equals(wanted));
        int publicFields = 0;
        for (Field f : face.getDeclaredFields()) {
            if (!Modifier.isPrivate(f.getModifiers())) {
                publicFields++;
            }
            Check.holds("static means final: " + f, !Modifier.isStatic(f.getModifiers())
                    || Modifier.isFinal(f.getModifiers()));
        }
        Check.due("constants", publicFields, 5);
        Constructor<?>[] constructors = face.getDeclaredConstructors();
        Check.holds("one public constructor without arguments", constructors.length == 1
                && Modifier.isPublic(constructors[0].getModifiers()) && constructors[0].getParameterCount() == 0);
    }

    private static void insideClasses() {
        Class<?>[] inside = NudgeLocks.class.getDeclaredClasses();
        Check.holds("some twelve classes at the most", inside.length <= 12);
        for (Class<?> c : inside) {
            Check.holds("static, neither public nor protected: " + c, Modifier.isStatic(c.getModifiers())
                    && !Modifier.isPublic(c.getModifiers()) && !Modifier.isProtected(c.getModifiers()));
            for (Method m : c.getDeclaredMethods()) {
                Check.holds("at most seven parameters: " + m, m.getParameterCount() <= 7);
            }
        }
    }

    private static void text(String whole) {
        String code = whole.replaceAll("(?s)/\\*.*?\\*/", "").replaceAll("//[^\n]*", "");
        for (int i = 0; i < code.length(); i++) {
            Check.holds("a plain sign at " + i, code.charAt(i) > 0 && code.charAt(i) < 128);
        }
        String[] words = {
            "throw", "throws", "try", "catch", "finally", "synchronized", "assert", "package", "native", "volatile",
            "transient", "protected", "Exception", "Object", "Random", "Thread",
        };
        for (String word : words) {
            Check.holds("no " + word, !Pattern.compile("\\b" + word + "\\b").matcher(code).find());
        }
        Check.holds("no lambda", !code.replaceAll("(case [^;{}]*|default )->", "").contains("->"));
        Check.holds("no method reference", !code.contains("::"));
        Check.holds("no static block", !Pattern.compile("static\\s*\\{").matcher(code).find());
        Check.holds("no text joined by +", !Pattern.compile("\"\\s*\\+|\\+\\s*\"").matcher(code).find());
        imports(code);
        librarySites(code);
        methodLengths(code);
    }

    private static void imports(String code) {
        Matcher m = Pattern.compile("\\bimport\\s+([^;]+);").matcher(code);
        while (m.find()) {
            Check.holds("may be imported: " + m.group(1), m.group(1).matches("java\\.util\\.(ArrayList|List|Arrays|Iterator)"));
        }
    }

    /** The static functions of the library, by rule 4. */
    private static void librarySites(String code) {
        Matcher m = Pattern.compile("\\b(System|Integer|Long|Math|String|StringBuilder|Arrays|List|Character|Objects|Collections)"
                + "\\.(\\w+)").matcher(code);
        while (m.find()) {
            String site = m.group();
            boolean ofWholeNumbers = site.matches("(Integer|Long|Math)\\.\\w+") && !site.endsWith("Exact")
                    && !site.matches(".*\\.(random|sqrt|cbrt|pow|exp|log|log10|sin|cos|tan|floor|ceil|rint|round|parse\\w+|decode|get\\w+)");
            Check.holds("in the library: " + site, ofWholeNumbers || List.of("System.arraycopy", "Arrays.copyOf", "Arrays.copyOfRange",
                    "Arrays.fill", "List.of").contains(site));
        }
    }

    private static void methodLengths(String code) {
        String[] lines = code.split("\n");
        for (int i = 0; i < lines.length; i++) {
            Matcher m = Pattern.compile("^( {4}| {8})[a-zA-Z].*\\) \\{$").matcher(lines[i]);
            if (!m.find() || lines[i].trim().matches("(if|for|while|switch|do|else).*")) {
                continue;
            }
            String close = m.group(1) + "}";
            int end = i;
            while (end < lines.length && !lines[end].equals(close)) {
                end++;
            }
            Check.holds("some sixty lines at the most: " + lines[i].trim(), end - i < 60);
        }
    }
}
