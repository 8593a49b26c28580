import java.io.IOException;
import java.nio.charset.StandardCharsets;
import java.nio.file.Files;
import java.nio.file.Path;
import java.util.ArrayList;
import java.util.List;
import java.util.TreeMap;

/**
 * The document, as far as the tests need it: whether a sentence that a test names stands in it, and whether each
 * line that names an argument, an answer or an exception is named by a test. Run from the project's folder.
 */
final class Document {
    private static final Path PLACE = Path.of("../shared/DOC.md");
    private static final String[] TERMS = {"PARTS", "CONTRACTS", "CALLS", "TEXT", "ACTIONS AND UNDO", "EXCEPTIONS"};
    private static final TreeMap<String, List<String>> SECTIONS = read();
    private static final TreeMap<String, List<String>> NAMED = new TreeMap<>();

    private Document() {
    }

    private static TreeMap<String, List<String>> read() {
        TreeMap<String, List<String>> sections = new TreeMap<>();
        if (!Files.exists(PLACE)) {
            return sections;
        }
        List<String> section = new ArrayList<>();
        try {
            for (String line : Files.readAllLines(PLACE, StandardCharsets.UTF_8)) {
                if (line.startsWith("## ") || List.of(TERMS).contains(line)) {
                    section = new ArrayList<>();
                    sections.put(line.replace("## ", "").replaceAll("^(Promise [0-9]+):.*", "$1"), section);
                } else if (!line.startsWith("```")) {
                    section.add(plain(line));
                }
            }
        } catch (IOException e) {
            Checks.fail("the document cannot be read: " + e);
        }
        return sections;
    }

    private static String plain(String line) {
        return line.replace("`", "").replaceAll("\\s+", " ").trim();
    }

    private static String whole(String section) {
        return plain(String.join(" ", SECTIONS.getOrDefault(section, List.of())));
    }

    /** Notes that a test names a sentence; without the document at hand nothing is compared. */
    static void name(String section, String words) {
        NAMED.computeIfAbsent(section, s -> new ArrayList<>()).add(words);
        if (!SECTIONS.isEmpty() && !whole(section).contains(words)) {
            Checks.fail(section + " of the document has no \"" + words + "\"");
        }
    }

    /** Each section of the terms and each promise is named, and in a promise each line that sets a bound to a call. */
    static void checkThatAllIsNamed() {
        for (String term : TERMS) {
            checkNamed(term);
        }
        for (int promise = 1; promise <= 27; promise++) {
            checkNamed("Promise " + promise);
            for (String line : SECTIONS.getOrDefault("Promise " + promise, List.of())) {
                if (line.startsWith("Throws ") || line.startsWith("Returns ") || line.startsWith("- ")) {
                    checkLine("Promise " + promise, line.replaceAll("^- ", ""));
                }
            }
        }
    }

    private static void checkNamed(String section) {
        if (!NAMED.containsKey(section)) {
            Checks.fail("no test names a sentence of " + section);
        }
    }

    private static void checkLine(String section, String line) {
        for (String words : NAMED.getOrDefault(section, List.of())) {
            if (line.contains(words) || words.contains(line)) {
                return;
            }
        }
        Checks.fail("no test names \"" + line + "\" of " + section);
    }
}
