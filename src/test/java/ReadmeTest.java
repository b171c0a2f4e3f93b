import java.io.IOException;
import java.lang.reflect.Method;
import java.lang.reflect.Modifier;
import java.nio.file.Files;
import java.nio.file.Path;
import java.util.List;
import java.util.regex.Matcher;
import java.util.regex.Pattern;
import java.util.stream.Collectors;
import java.util.stream.Stream;

/** README.md: its examples answer as it says, and it tells of every call, constant and test. Runs in the project's folder. */
public final class ReadmeTest {
    private static final Pattern CALL = Pattern.compile("locks\\.(\\w+)\\((.*?)\\);\\s+// (-?\\d+|[A-Z_]+)(:.*)?");

    private ReadmeTest() {
    }

    public static void main(String[] args) throws IOException, ReflectiveOperationException {
        String page = Files.readString(Path.of("README.md"));
        examples(page);
        constants(page);
        calls(page);
        tests(page);
        Check.end();
    }

    private static void examples(String page) throws ReflectiveOperationException {
        NudgeLocks locks = null;
        boolean inExample = false;
        int examples = 0;
        for (String line : page.split("\n")) {
            if (line.startsWith("```")) {
                inExample = line.equals("```java");
                continue;
            }
            if (!inExample) {
                continue;
            }
            if (line.equals("NudgeLocks locks = new NudgeLocks();")) {
                locks = new NudgeLocks();
                examples++;
                continue;
            }
            Matcher m = CALL.matcher(line);
            boolean isCall = m.matches() && locks != null;
            Check.holds("a call with its answer: " + line, isCall);
            if (isCall) {
                Check.due(line, answer(locks, m.group(1), m.group(2)), number(m.group(3)));
            }
        }
        Check.due("examples", examples, 2);
    }

    private static int answer(NudgeLocks locks, String name, String list) throws ReflectiveOperationException {
        Method method = Stream.of(NudgeLocks.class.getMethods()).filter(m -> m.getName().equals(name)).findFirst().orElseThrow();
        Object[] values = list.isEmpty() ? new Object[0] : Stream.of(list.split(", ")).map(ReadmeTest::value).toArray();
        return (int) method.invoke(locks, values);
    }

    private static Object value(String written) {
        if (written.startsWith("'")) {
            return written.charAt(1);
        }
        return Integer.parseInt(written);
    }

    private static int number(String written) throws ReflectiveOperationException {
        return written.matches("-?\\d+") ? Integer.parseInt(written) : NudgeLocks.class.getField(written).getInt(null);
    }

    private static void constants(String page) throws ReflectiveOperationException {
        for (String name : List.of("UNKNOWN", "OUT_OF_RANGE", "FULL", "NOT_POSSIBLE", "NONE")) {
            Check.holds("tells what " + name + " means", page.contains("| `" + name + "` | " + number(name) + " | "));
        }
    }

    private static void calls(String page) {
        for (Method m : NudgeLocks.class.getDeclaredMethods()) {
            if (!Modifier.isPublic(m.getModifiers())) {
                continue;
            }
            Matcher row = Pattern.compile("(?m)^\\| `" + m.getName() + "\\((.*?)\\)` \\|").matcher(page);
            Check.holds("tells what " + m.getName() + " answers", row.find());
            String list = row.reset().find() ? row.group(1) : "";
            Check.due("arguments of " + m.getName(), list.isEmpty() ? 0 : list.split(", ").length, m.getParameterCount());
        }
    }

    private static void tests(String page) throws IOException {
        Check.holds("tells by which command the tests are run", page.contains("    bash .ci/run\n"));
        Check.holds("the command is there, and may be run", Files.isExecutable(Path.of(".ci/run")));
        List<String> names;
        try (Stream<Path> files = Files.list(Path.of("src/test/java"))) {
            names = files.map(f -> f.getFileName().toString().replace(".java", "")).collect(Collectors.toList());
        }
        for (String name : names) {
            boolean isOfTheTables = name.endsWith("Test") || name.startsWith("Bounds");
            Check.holds("tells of " + name, !isOfTheTables || page.contains("| " + name + " |"));
        }
    }
}
