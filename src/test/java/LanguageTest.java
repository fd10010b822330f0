import com.sun.source.tree.BinaryTree;
import com.sun.source.tree.CompilationUnitTree;
import com.sun.source.tree.DoWhileLoopTree;
import com.sun.source.tree.ExpressionTree;
import com.sun.source.tree.ForLoopTree;
import com.sun.source.tree.LiteralTree;
import com.sun.source.tree.MethodInvocationTree;
import com.sun.source.tree.MethodTree;
import com.sun.source.tree.NewClassTree;
import com.sun.source.tree.ThrowTree;
import com.sun.source.tree.Tree;
import com.sun.source.tree.VariableTree;
import com.sun.source.tree.WhileLoopTree;
import com.sun.source.util.JavacTask;
import com.sun.source.util.TreePathScanner;
import com.sun.source.util.Trees;
import java.io.IOException;
import java.lang.reflect.Field;
import java.lang.reflect.Method;
import java.lang.reflect.Modifier;
import java.nio.charset.StandardCharsets;
import java.nio.file.Files;
import java.nio.file.Path;
import java.util.ArrayList;
import java.util.EnumSet;
import java.util.List;
import java.util.Map;
import java.util.Set;
import java.util.TreeMap;
import java.util.TreeSet;
import java.util.regex.Pattern;
import javax.lang.model.element.Element;
import javax.lang.model.type.TypeMirror;
import javax.tools.JavaCompiler;
import javax.tools.StandardJavaFileManager;
import javax.tools.ToolProvider;

/**
 * The rules of ../shared/LANGUAGE.md, looked at in the source of the class as the compiler reads it. Where the class
 * needs less than the rules allow (no while, no list, no instanceof), the test allows less.
 */
public final class LanguageTest {
    private static final Path SOURCE = Path.of("src/main/java/VoussoirYard.java");
    private static final Set<String> EXCEPTIONS = Set.of("IllegalStateException", "IllegalArgumentException",
        "IndexOutOfBoundsException", "ArithmeticException", "UnsupportedOperationException",
        "NoSuchElementException");
    private static final Set<String> LIBRARY = Set.of("String.length()", "String.charAt(int)",
        "StringBuilder.append(char)", "StringBuilder.append(String)", "StringBuilder.append(int)",
        "StringBuilder.toString()", "Math.max(int,int)", "Math.min(int,int)", "Math.max(long,long)",
        "Math.min(long,long)", "System.arraycopy(Object,int,Object,int,int)");
    private static final Set<String> OTHER_TYPES = Set.of("int", "long", "char", "boolean", "float", "double", "void",
        "String", "StringBuilder", "int[]", "long[]");
    private static final Set<Tree.Kind> BARRED = EnumSet.of(Tree.Kind.LAMBDA_EXPRESSION, Tree.Kind.MEMBER_REFERENCE,
        Tree.Kind.TRY, Tree.Kind.CATCH, Tree.Kind.SYNCHRONIZED, Tree.Kind.ASSERT, Tree.Kind.SWITCH_EXPRESSION,
        Tree.Kind.ANNOTATION, Tree.Kind.TYPE_CAST, Tree.Kind.INSTANCE_OF);
    private static final int MOST_LINES = 60;
    private static final int MOST_CALLS_OPEN = 8;

    private LanguageTest() {
    }

    public static void main(String[] args) throws IOException {
        textHoldsNothingElse();
        classesStaySmall();
        treeKeepsToTheRules();
        Due.end();
    }

    private static void textHoldsNothingElse() throws IOException {
        String text = Files.readString(SOURCE, StandardCharsets.ISO_8859_1);
        Due.report("all signs are 1 to 127", "" + text.chars().allMatch(sign -> sign >= 1 && sign <= 127), "true");
        String heads = String.join("", Pattern.compile("(?m)^(import|package).*$").matcher(text).results()
            .map(found -> found.group()).toArray(String[]::new));
        Due.report("the imports", heads, "import java.util.NoSuchElementException;");
        Due.report("a static block", "" + Pattern.compile("\\bstatic\\s*\\{").matcher(text).find(), "false");
    }

    // ---- rules 1, 2, 5 and 11: what the classes hold

    private static void classesStaySmall() {
        Class<?>[] inside = VoussoirYard.class.getDeclaredClasses();
        Due.report("at most 12 classes", "" + (inside.length + 1 <= 12), "true");
        checkClass(VoussoirYard.class);
        for (Class<?> one : inside) {
            Due.report(one.getName(), Modifier.toString(one.getModifiers()), "private static final");
            Due.report(one.getName() + " holds no class", "" + one.getDeclaredClasses().length, "0");
            checkClass(one);
        }
    }

    private static void checkClass(Class<?> type) {
        long fields = 0;
        for (Field field : type.getDeclaredFields()) {
            boolean isStatic = Modifier.isStatic(field.getModifiers());
            fields += isStatic ? 0 : 1;
            Due.report(field + " is a constant if it is static",
                "" + (!isStatic || Modifier.isFinal(field.getModifiers()) && field.getType().isPrimitive()), "true");
        }
        Due.report(type.getName() + " has at most 20 fields", "" + (fields <= 20), "true");
        for (Method method : type.getDeclaredMethods()) {
            Due.report(method + " has at most 7 parameters", "" + (method.getParameterCount() <= 7), "true");
        }
    }

    // ---- the other rules: what the methods do

    private static void treeKeepsToTheRules() throws IOException {
        JavaCompiler compiler = ToolProvider.getSystemJavaCompiler();
        try (StandardJavaFileManager files = compiler.getStandardFileManager(null, null, null)) {
            JavacTask task = (JavacTask) compiler.getTask(null, files, null, List.of("-proc:none"), null,
                files.getJavaFileObjects(SOURCE));
            CompilationUnitTree unit = task.parse().iterator().next();
            task.analyze();
            Rules rules = new Rules(Trees.instance(task), unit);
            rules.scan(unit, null);
            Due.report("methods were seen", "" + (rules.calls.size() > 32), "true");
            for (String method : rules.calls.keySet()) {
                Due.report(method + " stays within 8 calls and calls itself by no way",
                    "" + (rules.depthOf(method, new ArrayList<>()) <= MOST_CALLS_OPEN), "true");
            }
        }
    }

    private static final class Rules extends TreePathScanner<Void, Void> {
        /** Each method of the class, with those of the class that it calls. */
        final Map<String, Set<String>> calls = new TreeMap<>();
        private final Trees trees;
        private final CompilationUnitTree unit;
        private MethodTree method;
        private String methodName = "a field";

        Rules(Trees trees, CompilationUnitTree unit) {
            this.trees = trees;
            this.unit = unit;
        }

        int depthOf(String name, List<String> open) {
            if (open.contains(name)) {
                return MOST_CALLS_OPEN + 1;
            }
            open.add(name);
            int deepest = 0;
            for (String called : calls.getOrDefault(name, Set.of())) {
                deepest = Math.max(deepest, depthOf(called, open));
            }
            open.remove(name);
            return deepest + 1;
        }

        @Override
        public Void scan(Tree tree, Void nothing) {
            if (tree != null && BARRED.contains(tree.getKind())) {
                boolean isNumberCast = tree.getKind() == Tree.Kind.TYPE_CAST
                    && tree.toString().matches("\\((float|double|long|char)\\).*");
                Due.report(at(tree) + "a part of Java that is not allowed", isNumberCast ? "none" : "" + tree, "none");
            }
            return super.scan(tree, nothing);
        }

        @Override
        public Void visitMethod(MethodTree tree, Void nothing) {
            method = tree;
            methodName = nameOf(trees.getElement(getCurrentPath()));
            calls.put(methodName, new TreeSet<>());
            int lines = tree.toString().split("\n").length;
            Due.report(methodName + " has some 60 lines at most", "" + (lines <= MOST_LINES), "true");
            super.visitMethod(tree, nothing);
            method = null;
            methodName = "a field";
            return null;
        }

        @Override
        public Void visitMethodInvocation(MethodInvocationTree tree, Void nothing) {
            note(trees.getElement(getCurrentPath()));
            return super.visitMethodInvocation(tree, nothing);
        }

        @Override
        public Void visitNewClass(NewClassTree tree, Void nothing) {
            String made = tree.getIdentifier().toString();
            Element constructor = trees.getElement(getCurrentPath());
            if (isOwn(constructor)) {
                note(constructor);
            } else {
                Due.report(at(tree) + "makes only what rule 4 and 6 list",
                    "" + (EXCEPTIONS.contains(made) || made.equals("StringBuilder")), "true");
            }
            return super.visitNewClass(tree, nothing);
        }

        private void note(Element called) {
            if (isOwn(called)) {
                calls.computeIfAbsent(methodName, name -> new TreeSet<>()).add(nameOf(called));
            } else if (!nameOf(called).endsWith("Object()")) {
                Due.report(methodName + " calls only what rule 4 lists: " + nameOf(called),
                    "" + LIBRARY.contains(nameOf(called)), "true");
            }
        }

        @Override
        public Void visitThrow(ThrowTree tree, Void nothing) {
            boolean isNewWithText = tree.getExpression() instanceof NewClassTree;
            Due.report(at(tree) + "throws a new exception", "" + isNewWithText, "true");
            if (isNewWithText && method != null) {
                NewClassTree made = (NewClassTree) tree.getExpression();
                for (ExpressionTree text : made.getArguments()) {
                    Due.report(at(tree) + "its text is written out", "" + (text instanceof LiteralTree), "true");
                }
                Due.report(at(tree) + "is told in the head of a call of the face",
                    "" + method.getThrows().toString().contains(made.getIdentifier().toString()), "true");
            }
            return super.visitThrow(tree, nothing);
        }

        @Override
        public Void visitVariable(VariableTree tree, Void nothing) {
            TypeMirror type = trees.getTypeMirror(getCurrentPath());
            String name = shorten("" + type);
            boolean isOwnType = name.matches("VoussoirYard\\.\\w+(\\[\\])?");
            Due.report(at(tree) + tree.getName() + " has a type of rule 3: " + name,
                "" + (isOwnType || OTHER_TYPES.contains(name)), "true");
            return super.visitVariable(tree, nothing);
        }

        @Override
        public Void visitBinary(BinaryTree tree, Void nothing) {
            if (tree.getKind() == Tree.Kind.PLUS) {
                Due.report(at(tree) + "joins texts by +",
                    "" + shorten("" + trees.getTypeMirror(getCurrentPath())).equals("String"), "false");
            }
            return super.visitBinary(tree, nothing);
        }

        @Override
        public Void visitForLoop(ForLoopTree tree, Void nothing) {
            boolean hasEnd = tree.getCondition() != null && tree.getUpdate().size() == 1;
            Due.report(at(tree) + "shows its end", "" + hasEnd, "true");
            return super.visitForLoop(tree, nothing);
        }

        @Override
        public Void visitWhileLoop(WhileLoopTree tree, Void nothing) {
            Due.report(at(tree) + "shows its end", "while", "for");
            return super.visitWhileLoop(tree, nothing);
        }

        @Override
        public Void visitDoWhileLoop(DoWhileLoopTree tree, Void nothing) {
            Due.report(at(tree) + "shows its end", "do", "for");
            return super.visitDoWhileLoop(tree, nothing);
        }

        private String at(Tree tree) {
            long begin = trees.getSourcePositions().getStartPosition(unit, tree);
            return "line " + (begin < 0 ? 0 : unit.getLineMap().getLineNumber(begin)) + ", " + methodName + ": ";
        }

        private static boolean isOwn(Element called) {
            return ("" + called.getEnclosingElement()).startsWith("VoussoirYard");
        }

        /** Such as Math.max(int,int); a constructor bears the name of its class. */
        private static String nameOf(Element called) {
            return shorten(called.getEnclosingElement() + "." + called);
        }

        private static String shorten(String name) {
            return name.replaceAll("java\\.(lang|util)\\.", "");
        }
    }
}
