import java.io.IOException;
import java.nio.file.Files;
import java.nio.file.Path;
import java.util.LinkedHashMap;
import java.util.Map;

/**
 * The sentences of ../shared/DOC.md that the tests quote. A quote that does not stand in the document is a failure, and
 * so is a quoted sentence without a test, and a sentence that nobody quotes.
 * Runs in the project's folder.
 */
final class Doc {
    private static final Map<String, String> SECTIONS = new LinkedHashMap<>();
    private static final Map<String, boolean[]> QUOTED = new LinkedHashMap<>();
    private static String open = "";
    private static int askedBefore = 0;
    private static int sentences = 0;

    private Doc() {
    }

    static void read() throws IOException {
        Map<String, StringBuilder> texts = new LinkedHashMap<>();
        String section = "";
        for (String line : Files.readString(Path.of("../shared/DOC.md")).split("\n")) {
            if (line.matches("##? .*") || line.matches("[A-Z]+( [A-Z]+)*")) {
                section = line.replaceFirst("##? ", "").replaceAll(":.*", "");
                texts.put(section, new StringBuilder());
            } else if (!section.isEmpty() && !line.startsWith("```")) {
                texts.get(section).append(line.replaceFirst("^- ", "")).append(' ');
            }
        }
        texts.forEach((name, text) -> {
            String plain = text.toString().replaceAll("\\s+", " ").trim();
            SECTIONS.put(name, plain);
            QUOTED.put(name, new boolean[plain.length()]);
        });
    }

    /** The following answers are what this sentence asks for. */
    static void says(String section, String sentence) {
        close();
        open = section + ": \"" + sentence + "\"";
        askedBefore = Check.asked();
        sentences++;
        Check.about(open);
        if (!mark(section, sentence)) {
            Check.holds("stands in the document", false);
        }
    }

    /** A sentence that names nothing that a call could answer wrongly. */
    static void saysNothingToTest(String section, String sentence) {
        close();
        Check.about("");
        Check.holds(section + ": \"" + sentence + "\" stands in the document", mark(section, sentence));
    }

    private static void close() {
        if (!open.isEmpty() && Check.asked() == askedBefore) {
            Check.holds("has a test", false);
        }
        open = "";
    }

    private static boolean mark(String section, String sentence) {
        String text = SECTIONS.getOrDefault(section, "");
        boolean found = false;
        for (int at = text.indexOf(sentence); at >= 0; at = text.indexOf(sentence, at + 1)) {
            java.util.Arrays.fill(QUOTED.get(section), at, at + sentence.length(), true);
            found = true;
        }
        return found;
    }

    /** Looks whether every sentence has been quoted. */
    static void end() {
        close();
        Check.about("");
        SECTIONS.forEach((name, text) -> {
            String left = notQuoted(name, text);
            Check.holds(name + " has no sentence without a test: " + left, left.isEmpty());
        });
        System.out.println(sentences + " sentences");
    }

    private static String notQuoted(String name, String text) {
        boolean[] quoted = QUOTED.get(name);
        StringBuilder left = new StringBuilder();
        for (int i = 0; i < quoted.length; i++) {
            left.append(quoted[i] ? ' ' : text.charAt(i));
        }
        // Words that only join quoted parts of one sentence.
        String rest = left.toString().replaceAll("[^A-Za-z0-9]+", " ").replaceAll("\\b(and|or)\\b", " ");
        return rest.replaceAll("\\s+", " ").trim();
    }
}
