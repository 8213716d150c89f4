import java.io.IOException;
import java.nio.file.Files;
import java.nio.file.Path;
import java.util.LinkedHashMap;
import java.util.LinkedHashSet;
import java.util.Map;
import java.util.Set;

/** The sentences of the document that have a test of their own; each fault is told with its sentence. */
final class Sentences {
    private static final Map<String, Set<String>> TESTED = new LinkedHashMap<>();
    private static final Map<String, Set<String>> UNBOUNDED = new LinkedHashMap<>();

    private Sentences() {
    }

    static void promise(int number, String sentence, Due.Call test) {
        tested("Promise " + number, sentence, test);
    }

    /** The sentence "Throws .. if .." of a promise. */
    static void refusal(int number, Class<? extends RuntimeException> thrown, String condition, Due.Call test) {
        promise(number, "Throws `" + thrown.getSimpleName() + "` if " + condition, test);
    }

    static void tested(String section, String sentence, Due.Call test) {
        TESTED.computeIfAbsent(section, s -> new LinkedHashSet<>()).add(sentence);
        Due.about(section + ", \"" + sentence + "\": ");
        RuntimeException thrown = Due.thrownBy(test);
        if (thrown != null) {
            Due.fault("the test ended by " + thrown);
        }
        Due.about("");
    }

    /** A sentence that names no boundary. */
    static void unbounded(String section, String sentence) {
        UNBOUNDED.computeIfAbsent(section, s -> new LinkedHashSet<>()).add(sentence);
    }

    /**
     * The document must hold every sentence that is quoted; all sentences of the first sections and every "Throws" must be
     * quoted, so that none can be left out unseen.
     */
    static void compareWith(Path document) throws IOException {
        Map<String, String> sections = sectionsOf(Files.readString(document));
        mustBeThere(sections, TESTED);
        mustBeThere(sections, UNBOUNDED);
        for (Map.Entry<String, String> section : sections.entrySet()) {
            String name = section.getKey();
            if (name.startsWith("Promise ")) {
                everyThrowsIsTested(name, section.getValue());
            } else if (TESTED.containsKey(name)) {
                nothingIsLeftOut(name, section.getValue());
            }
        }
    }

    private static void mustBeThere(Map<String, String> sections, Map<String, Set<String>> quoted) {
        for (Map.Entry<String, Set<String>> section : quoted.entrySet()) {
            String text = inOneLine(sections.getOrDefault(section.getKey(), ""));
            for (String sentence : section.getValue()) {
                Due.is(section.getKey() + " has \"" + sentence + "\"", text.contains(sentence), true);
            }
        }
    }

    private static void everyThrowsIsTested(String name, String text) {
        for (String line : text.split("\n")) {
            if (line.startsWith("Throws ")) {
                Due.is(name + ", a test of \"" + line + "\"", quoted(TESTED, name).contains(line), true);
            }
        }
    }

    private static void nothingIsLeftOut(String name, String text) {
        String left = inOneLine(text);
        for (String sentence : quoted(TESTED, name)) {
            left = left.replace(sentence, "");
        }
        for (String sentence : quoted(UNBOUNDED, name)) {
            left = left.replace(sentence, "");
        }
        Due.is(name + ", what no test quotes", left.trim(), "");
    }

    private static Set<String> quoted(Map<String, Set<String>> all, String name) {
        return all.getOrDefault(name, Set.of());
    }

    /** The texts of the sections by their names; a promise is named without its title. */
    private static Map<String, String> sectionsOf(String document) {
        Map<String, String> sections = new LinkedHashMap<>();
        for (String part : document.split("(?m)^## ")) {
            int end = part.indexOf('\n');
            String heading = end < 0 ? part : part.substring(0, end);
            String name = heading.startsWith("Promise ") ? heading.substring(0, heading.indexOf(':')) : heading;
            sections.put(name, end < 0 ? "" : part.substring(end + 1));
        }
        return sections;
    }

    private static String inOneLine(String text) {
        return text.replaceAll("\\s+", " ");
    }
}
