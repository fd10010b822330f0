import java.io.IOException;
import java.io.UncheckedIOException;
import java.nio.file.Files;
import java.nio.file.Path;
import java.util.LinkedHashMap;
import java.util.Map;

/** The parts of the document, so that a test can name the very sentence that it looks at. */
final class Doc {
    private static final Path DOCUMENT = Path.of("../shared/DOC.md");
    private static final Map<String, String> PARTS = read();

    private Doc() {
    }

    /** The answers that follow belong to these words; a part is "Terms" or "Promise n". */
    static void says(String part, String words) {
        boolean isThere = PARTS.containsKey(part) && PARTS.get(part).contains(words);
        Due.report(part + " says: " + words, "" + isThere, "true");
        Due.under(part + ", " + words);
    }

    /** The parts by their names, each with its lines joined by single blanks. */
    static Map<String, String> parts() {
        return PARTS;
    }

    private static Map<String, String> read() {
        Map<String, String> parts = new LinkedHashMap<>();
        try {
            for (String part : Files.readString(DOCUMENT).split("(?m)^## ")) {
                String[] headAndRest = part.split("\n", 2);
                String name = headAndRest[0].replaceAll(":.*", "").trim();
                parts.put(name, headAndRest.length < 2 ? "" : headAndRest[1].replaceAll("\\s+", " ").trim());
            }
        } catch (IOException unreadable) {
            throw new UncheckedIOException(unreadable);
        }
        return parts;
    }
}
