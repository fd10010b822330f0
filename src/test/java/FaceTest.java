import java.io.IOException;
import java.lang.reflect.Constructor;
import java.lang.reflect.Field;
import java.lang.reflect.Method;
import java.lang.reflect.Modifier;
import java.nio.file.Files;
import java.nio.file.Path;
import java.util.Arrays;
import java.util.Set;
import java.util.TreeSet;
import java.util.regex.Matcher;
import java.util.regex.Pattern;

/** The public face as the document gives it: its calls, nothing beside them, and what is said ahead of them. */
public final class FaceTest {
    private static final Path DOCUMENT = Path.of("../shared/DOC.md");
    private static final Path SOURCE = Path.of("src/main/java/VoussoirYard.java");

    public static void main(String[] args) throws IOException {
        Doc.says("The public face", "public final class VoussoirYard {");
        methodsAreThoseOfTheDocument();
        nothingElseIsOpen();
        headingsAreThoseOfTheDocument();
        Due.end();
    }

    private static void methodsAreThoseOfTheDocument() throws IOException {
        Set<String> due = new TreeSet<>();
        Matcher line = Pattern.compile("(?m)^    public (\\w+) (\\w+)\\((.*?)\\)(?: throws (.*?))?;$")
            .matcher(Files.readString(DOCUMENT));
        while (line.find()) {
            String types = line.group(3).replaceAll(" \\w+(,|$)", "$1");
            String thrown = line.group(4) == null ? "" : line.group(4);
            due.add(line.group(1) + " " + line.group(2) + "(" + types + ") " + thrown);
        }
        Set<String> got = new TreeSet<>();
        for (Method method : VoussoirYard.class.getDeclaredMethods()) {
            if (!Modifier.isPrivate(method.getModifiers())) {
                got.add(method.getReturnType().getSimpleName() + " " + method.getName()
                    + "(" + names(method.getParameterTypes()) + ") " + names(method.getExceptionTypes()));
                Due.report(method.getName(), Modifier.toString(method.getModifiers()), "public");
            }
        }
        Due.report("the number of methods", "" + due.size(), "32");
        Due.report("the methods", got.toString(), due.toString());
    }

    private static String names(Class<?>[] types) {
        return String.join(", ", Arrays.stream(types).map(Class::getSimpleName).toArray(String[]::new));
    }

    private static void nothingElseIsOpen() {
        Due.report("the class", Modifier.toString(VoussoirYard.class.getModifiers()), "public final");
        Constructor<?>[] constructors = VoussoirYard.class.getDeclaredConstructors();
        Due.report("the constructors", Arrays.toString(constructors), "[public VoussoirYard()]");
        for (Field field : VoussoirYard.class.getDeclaredFields()) {
            Due.report(field.getName() + " is private", "" + Modifier.isPrivate(field.getModifiers()), "true");
        }
        namesOfTheFaceAreUsedOnce(VoussoirYard.class);
        for (Class<?> inside : VoussoirYard.class.getDeclaredClasses()) {
            namesOfTheFaceAreUsedOnce(inside);
        }
    }

    private static void namesOfTheFaceAreUsedOnce(Class<?> type) {
        Set<String> face = new TreeSet<>();
        for (Method method : VoussoirYard.class.getMethods()) {
            face.add(method.getName());
        }
        for (Method method : type.getDeclaredMethods()) {
            boolean isOfTheFace = type == VoussoirYard.class && Modifier.isPublic(method.getModifiers());
            Due.report(type.getName() + "." + method.getName() + " bears a name of the face, but is none of it",
                "" + (!isOfTheFace && face.contains(method.getName())), "false");
        }
    }

    /** "Ahead of the calls `a`, `b` the interface says: ---- c.": so does the source, ahead of these calls alone. */
    private static void headingsAreThoseOfTheDocument() throws IOException {
        Matcher due = Pattern.compile("Ahead of the calls (.*?) the interface says: (---- .*?)\\.")
            .matcher(Doc.parts().get("Terms"));
        StringBuilder wanted = new StringBuilder();
        while (due.find()) {
            wanted.append(due.group(2)).append(": ").append(due.group(1).replace("`", "")).append("\n");
        }
        Matcher line = Pattern.compile("(?m)^    // (---- .*)$|^    public \\w+ (\\w+)\\(")
            .matcher(Files.readString(SOURCE));
        StringBuilder got = new StringBuilder();
        String heading = "";
        while (line.find()) {
            if (line.group(1) != null) {
                heading = line.group(1);
            } else {
                got.append(got.indexOf(heading + ": ") < 0 ? "\n" + heading + ": " : ", ").append(line.group(2));
            }
        }
        Due.report("the headings", got.toString().trim(), wanted.toString().trim());
    }
}
