import java.io.IOException;
import java.io.UncheckedIOException;
import java.nio.file.Files;
import java.nio.file.Path;
import java.util.ArrayList;
import java.util.HashMap;
import java.util.List;
import java.util.Map;
import java.util.regex.Matcher;
import java.util.regex.Pattern;
import java.util.stream.Stream;

/** No sentence of the document that names a boundary is without a test: each one is named by some Doc.says. */
public final class SentencesTest {
    private static final Path TESTS = Path.of("src/test/java");
    private static final String TEXT = "\"(?:[^\"\\\\]|\\\\.)*\"";
    private static final Pattern SAYS =
        Pattern.compile("Doc\\.says\\(\\s*(" + TEXT + "),\\s*(" + TEXT + "(?:\\s*\\+\\s*" + TEXT + ")*)\\)");
    private static final Map<String, List<String>> SAID = new HashMap<>();

    private SentencesTest() {
    }

    public static void main(String[] args) throws IOException {
        readTests();
        Due.report("promises", "" + Doc.parts().keySet().stream().filter(part -> part.startsWith("Promise")).count(),
            "33");
        for (Map.Entry<String, String> part : Doc.parts().entrySet()) {
            if (part.getKey().startsWith("Promise ")) {
                eachRangeHasATest(part.getKey(), part.getValue());
                eachExceptionHasATest(part.getKey(), part.getValue());
            }
            if (!part.getKey().startsWith("# ")) {
                eachPartHasATest(part.getKey());
            }
        }
        eachSentenceOfTheTermsHasATest();
        Due.end();
    }

    private static void readTests() throws IOException {
        try (Stream<Path> files = Files.list(TESTS)) {
            files.filter(file -> file.toString().endsWith(".java")).forEach(SentencesTest::readTest);
        }
    }

    private static void readTest(Path file) {
        try {
            Matcher says = SAYS.matcher(Files.readString(file));
            while (says.find()) {
                SAID.computeIfAbsent(textOf(says.group(1)), part -> new ArrayList<>()).add(textOf(says.group(2)));
            }
        } catch (IOException unreadable) {
            throw new UncheckedIOException(unreadable);
        }
    }

    /** The text of one or more string constants that are joined by +. */
    private static String textOf(String source) {
        StringBuilder text = new StringBuilder();
        Matcher one = Pattern.compile(TEXT).matcher(source);
        while (one.find()) {
            text.append(one.group(), 1, one.group().length() - 1);
        }
        return text.toString().replace("\\\"", "\"");
    }

    /** Such as "- `width`: the width, 1 to 20". */
    private static void eachRangeHasATest(String part, String text) {
        Matcher range = Pattern.compile("- `\\w+`: (.*?)(?= - `| Returns | Throws |$)").matcher(text);
        while (range.find()) {
            if (range.group(1).matches(".*\\d.*")) {
                demandTest(part, text, range.start(1), range.end(1));
            }
        }
    }

    /** Each of the cases that a "Throws" tells, which stand between commas. */
    private static void eachExceptionHasATest(String part, String text) {
        Matcher thrown = Pattern.compile("Throws `\\w+` if .*?(?= Throws |$)").matcher(text);
        while (thrown.find()) {
            int begin = thrown.start();
            for (String aCase : thrown.group().split("(?<=,) ")) {
                demandTest(part, text, begin, begin + aCase.length());
                begin += aCase.length() + 1;
            }
        }
    }

    private static void eachPartHasATest(String part) {
        Due.report(part, SAID.containsKey(part) ? "has a test" : "has none", "has a test");
    }

    private static void eachSentenceOfTheTermsHasATest() {
        String text = Doc.parts().get("Terms");
        // behind this there are headings of the interface alone
        int end = text.indexOf("Ahead of the calls");
        Matcher sentence = Pattern.compile("[^.]+\\.").matcher(text.substring(0, end));
        while (sentence.find()) {
            boolean isHeading = sentence.group().trim().matches("\\w+\\.");
            if (!isHeading) {
                demandTest("Terms", text, sentence.start(), sentence.end());
            }
        }
    }

    /** Some Doc.says names words that lie, wholly or in part, between the two places of the text. */
    private static void demandTest(String part, String text, int begin, int end) {
        boolean isNamed = false;
        for (String words : SAID.getOrDefault(part, List.of())) {
            for (int at = text.indexOf(words); at >= 0; at = text.indexOf(words, at + 1)) {
                isNamed |= at < end && at + words.length() > begin;
            }
        }
        Due.report(part + ": " + text.substring(begin, end).trim(), isNamed ? "has a test" : "has none", "has a test");
    }
}
