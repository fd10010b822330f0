import java.io.IOException;
import java.nio.file.Files;
import java.nio.file.Path;
import java.util.ArrayList;
import java.util.Arrays;
import java.util.List;
import java.util.Set;
import java.util.TreeSet;
import java.util.regex.Matcher;
import java.util.regex.Pattern;
import java.util.stream.Stream;

/** README.md tells the truth: its example answers as it says, and its table names the tests that there are. */
public final class ReadmeTest {
    private static final Path README = Path.of("README.md");
    private static final Path TESTS = Path.of("src/test/java");

    private ReadmeTest() {
    }

    public static void main(String[] args) throws IOException {
        String text = Files.readString(README);
        exampleAnswersAsItSays(text);
        tableNamesAllTests(text);
        callsAreAllNamed(text);
        Due.end();
    }

    /** Each line is a call, with its answer behind // and ahead of a colon, if it tells one. */
    private static void exampleAnswersAsItSays(String text) {
        Pattern line = Pattern.compile("(?m)^yard\\.(\\w+)\\((.*?)\\);(?: +// (-?\\w+): .*)?$");
        VoussoirYard yard = new VoussoirYard();
        Matcher call = line.matcher(text);
        int told = 0;
        while (call.find()) {
            String outcome = Calls.outcome(yard, call.group(1), argumentsOf(call.group(2)));
            Due.report(call.group() + " answers", "" + !outcome.startsWith("throws"), "true");
            if (call.group(3) != null) {
                told++;
                Due.report(call.group(), outcome, call.group(3));
            }
        }
        Due.report("answers are told", "" + (told >= 5), "true");
    }

    private static Object[] argumentsOf(String text) {
        List<Object> arguments = new ArrayList<>();
        for (String one : text.isEmpty() ? new String[0] : text.split(", ")) {
            arguments.add(one.matches("true|false") ? (Object) Boolean.valueOf(one) : (Object) Integer.valueOf(one));
        }
        return arguments.toArray();
    }

    private static void tableNamesAllTests(String text) throws IOException {
        Set<String> named = new TreeSet<>();
        Matcher row = Pattern.compile("(?m)^\\| ((?:\\w+Test(?:, )?)+) \\|").matcher(text);
        while (row.find()) {
            named.addAll(Arrays.asList(row.group(1).split(", ")));
        }
        Set<String> there = new TreeSet<>();
        try (Stream<Path> files = Files.list(TESTS)) {
            files.forEach(file -> there.add(file.getFileName().toString().replace(".java", "")));
        }
        Due.report("the tests of the table", named.toString(), there.toString());
    }

    private static void callsAreAllNamed(String text) {
        for (java.lang.reflect.Method method : Calls.methodsOf(VoussoirYard.class)) {
            Due.report("README.md names " + method.getName(),
                "" + text.contains("`" + method.getName() + "`"), "true");
        }
    }
}
