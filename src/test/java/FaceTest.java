import java.io.IOException;
import java.lang.reflect.Constructor;
import java.lang.reflect.Field;
import java.lang.reflect.Method;
import java.lang.reflect.Modifier;
import java.nio.charset.StandardCharsets;
import java.nio.file.Files;
import java.nio.file.Path;
import java.util.Arrays;
import java.util.Set;
import java.util.TreeSet;
import java.util.regex.Matcher;
import java.util.regex.Pattern;

/** The public face as the document gives it, and the rules of LANGUAGE.md that can be counted. */
public final class FaceTest {
    private static final Path DOCUMENT = Path.of("../shared/DOC.md");
    private static final Path SOURCE = Path.of("src/main/java/VoussoirYard.java");

    public static void main(String[] args) throws IOException {
        methodsAreThoseOfTheDocument();
        nothingElseIsOpen();
        classesStaySmall();
        sourceKeepsToTheLanguage();
        Due.end();
    }

    private static void methodsAreThoseOfTheDocument() throws IOException {
        Set<String> due = new TreeSet<>();
        Matcher line = Pattern.compile("(?m)^    public (\\w+) (\\w+)\\((.*?)\\)(?: throws (.*?))?;$")
            .matcher(Files.readString(DOCUMENT));
        while (line.find()) {
            String types = line.group(3).replaceAll(" \\w+(,|$)", "$1");
            String thrown = line.group(4) == null ? "" : line.group(4);
            due.add(line.group(1) + " " + line.group(2) + "(" + types + ") " + thrown);
        }
        Set<String> got = new TreeSet<>();
        for (Method method : VoussoirYard.class.getDeclaredMethods()) {
            if (!Modifier.isPrivate(method.getModifiers())) {
                got.add(method.getReturnType().getSimpleName() + " " + method.getName()
                    + "(" + names(method.getParameterTypes()) + ") " + names(method.getExceptionTypes()));
                Due.report(method.getName(), Modifier.toString(method.getModifiers()), "public");
            }
        }
        Due.report("the number of methods", "" + due.size(), "32");
        Due.report("the methods", got.toString(), due.toString());
    }

    private static String names(Class<?>[] types) {
        return String.join(", ", Arrays.stream(types).map(Class::getSimpleName).toArray(String[]::new));
    }

    private static void nothingElseIsOpen() {
        Due.report("the class", Modifier.toString(VoussoirYard.class.getModifiers()), "public final");
        Constructor<?>[] constructors = VoussoirYard.class.getDeclaredConstructors();
        Due.report("the constructors", Arrays.toString(constructors), "[public VoussoirYard()]");
        for (Field field : VoussoirYard.class.getDeclaredFields()) {
            Due.report(field.getName() + " is private", "" + Modifier.isPrivate(field.getModifiers()), "true");
        }
        Set<String> face = new TreeSet<>();
        for (Method method : VoussoirYard.class.getMethods()) {
            face.add(method.getName());
        }
        for (Class<?> inside : VoussoirYard.class.getDeclaredClasses()) {
            Due.report(inside.getName(), Modifier.toString(inside.getModifiers()), "private static final");
            for (Method method : inside.getDeclaredMethods()) {
                Due.report(inside.getName() + "." + method.getName() + " bears a name of the face",
                    "" + face.contains(method.getName()), "false");
            }
        }
    }

    private static void classesStaySmall() {
        Class<?>[] inside = VoussoirYard.class.getDeclaredClasses();
        Due.report("at most 12 classes", "" + (inside.length + 1 <= 12), "true");
        checkClass(VoussoirYard.class);
        for (Class<?> one : inside) {
            checkClass(one);
        }
    }

    private static void checkClass(Class<?> type) {
        long fields = 0;
        for (Field field : type.getDeclaredFields()) {
            boolean isConstant = Modifier.isStatic(field.getModifiers());
            fields += isConstant ? 0 : 1;
            Due.report(field + " is final if it is static",
                "" + (!isConstant || Modifier.isFinal(field.getModifiers())), "true");
        }
        Due.report(type.getName() + " has at most 20 fields", "" + (fields <= 20), "true");
        for (Method method : type.getDeclaredMethods()) {
            Due.report(method + " has at most 7 parameters", "" + (method.getParameterCount() <= 7), "true");
        }
    }

    private static void sourceKeepsToTheLanguage() throws IOException {
        String text = Files.readString(SOURCE, StandardCharsets.ISO_8859_1);
        Due.report("all signs are 1 to 127", "" + text.chars().allMatch(sign -> sign >= 1 && sign <= 127), "true");
        Matcher imports = Pattern.compile("(?m)^(import|package).*$").matcher(text);
        StringBuilder heads = new StringBuilder();
        while (imports.find()) {
            heads.append(imports.group());
        }
        Due.report("the imports", heads.toString(), "import java.util.NoSuchElementException;");
        String code = text.replaceAll("(?s)/\\*.*?\\*/", "").replaceAll("//[^\n]*", "");
        String[] barred = {"->", "::", "\\bcatch\\b", "\\bfinally\\b", "\\bsynchronized\\b", "\\bassert\\b",
            "Exact\\b", "\\bSystem\\.(?!arraycopy)", "\" *\\+", "\\+ *\"", "\\bstatic *\\{", "\\bhashCode\\b",
            "\\btoString\\b(?!\\(\\);)", "\\bThread\\b", "\\bRandom\\b", "\\bObject\\b", "\\bwhile *\\(true\\)"};
        for (String one : barred) {
            Due.report("the source holds " + one, "" + Pattern.compile(one).matcher(code).find(), "false");
        }
    }
}
