import com.sun.source.tree.AssertTree;
import com.sun.source.tree.BinaryTree;
import com.sun.source.tree.BlockTree;
import com.sun.source.tree.CatchTree;
import com.sun.source.tree.ClassTree;
import com.sun.source.tree.CompilationUnitTree;
import com.sun.source.tree.IdentifierTree;
import com.sun.source.tree.ImportTree;
import com.sun.source.tree.LambdaExpressionTree;
import com.sun.source.tree.MemberReferenceTree;
import com.sun.source.tree.MemberSelectTree;
import com.sun.source.tree.MethodInvocationTree;
import com.sun.source.tree.MethodTree;
import com.sun.source.tree.NewClassTree;
import com.sun.source.tree.SynchronizedTree;
import com.sun.source.tree.ThrowTree;
import com.sun.source.tree.Tree;
import com.sun.source.tree.TryTree;
import com.sun.source.tree.VariableTree;
import com.sun.source.util.JavacTask;
import com.sun.source.util.SourcePositions;
import com.sun.source.util.TreeScanner;
import com.sun.source.util.Trees;
import java.io.IOException;
import java.nio.charset.StandardCharsets;
import java.nio.file.Files;
import java.nio.file.Path;
import java.util.ArrayDeque;
import java.util.Deque;
import java.util.List;
import java.util.Map;
import java.util.Set;
import java.util.TreeMap;
import java.util.TreeSet;
import java.util.regex.Pattern;
import javax.lang.model.element.Modifier;
import javax.tools.JavaCompiler;
import javax.tools.StandardJavaFileManager;
import javax.tools.ToolProvider;

/** The rules of ../shared/LANGUAGE.md, as far as the text of the class shows them; the numbers are the rules'. */
public final class LanguageTest extends TreeScanner<Void, Void> {

    private static final Due due = new Due("LanguageTest");
    private static final Path MAIN = Path.of("src/main/java/Readingorder.java");
    private static final Set<String> IMPORTS = Set.of("java.util.ArrayList", "java.util.List", "java.util.Arrays",
            "java.util.Iterator", "java.util.NoSuchElementException");
    private static final Set<String> EXCEPTIONS = Set.of("IllegalStateException", "IllegalArgumentException",
            "IndexOutOfBoundsException", "ArithmeticException", "UnsupportedOperationException",
            "NoSuchElementException", "RuntimeException");
    private static final Set<String> LIBRARY = Set.of("String", "StringBuilder", "ArrayList", "List", "Integer", "Long",
            "Math", "Iterator", "Iterable", "Comparable", "System", "Arrays", "Override");
    private static final Pattern STATIC_CALLS = Pattern.compile(
            "System\\.arraycopy|Arrays\\.(copyOf|copyOfRange|fill)|List\\.of|Math\\.(abs|min|max|floorDiv|floorMod)"
                    + "|(Integer|Long)\\.(compare|max|min|abs|bitCount|MAX_VALUE|MIN_VALUE)");
    private static final Set<String> CONSTANT_TYPES = Set.of("int", "long", "boolean", "char", "String", "int[]",
            "long[]", "char[]", "byte[]");
    private static final int MOST_PARAMETERS = 7;
    private static final int MOST_LINES = 60;
    private static final int MOST_CLASSES = 12;
    private static final int MOST_FIELDS = 20;
    private static final int DEEPEST = 8;

    private final CompilationUnitTree unit;
    private final SourcePositions positions;
    private final Set<String> classes = new TreeSet<>();
    /** What each method calls by its name, of the methods of the file. */
    private final Map<String, Set<String>> calls = new TreeMap<>();
    private final Deque<MethodTree> methods = new ArrayDeque<>();

    private LanguageTest(CompilationUnitTree unit, SourcePositions positions) {
        this.unit = unit;
        this.positions = positions;
    }

    public static void main(String[] args) throws IOException {
        signs();
        JavaCompiler compiler = ToolProvider.getSystemJavaCompiler();
        try (StandardJavaFileManager files = compiler.getStandardFileManager(null, null, StandardCharsets.UTF_8)) {
            JavacTask task = (JavacTask) compiler.getTask(null, files, null, null, null, files.getJavaFileObjects(MAIN));
            for (CompilationUnitTree unit : task.parse()) {
                LanguageTest test = new LanguageTest(unit, Trees.instance(task).getSourcePositions());
                test.collect();
                test.file();
                test.scan(unit, null);
                test.depth();
            }
        }
        due.end();
    }

    private static void signs() throws IOException {
        boolean right = true;
        for (byte sign : Files.readAllBytes(MAIN)) {
            right &= sign >= 1;
        }
        due.check(right, "rule 4: there is a sign that is not 1 to 127");
    }

    private static void rule(boolean right, int rule, String what) {
        due.check(right, "rule " + rule + ": " + what);
    }

    /** The names of classes and methods, ahead of all else: the text may use them ahead of where they stand. */
    private void collect() {
        new TreeScanner<Void, Void>() {
            @Override
            public Void visitClass(ClassTree tree, Void none) {
                classes.add(tree.getSimpleName().toString());
                return super.visitClass(tree, none);
            }

            @Override
            public Void visitMethod(MethodTree tree, Void none) {
                calls.putIfAbsent(tree.getName().toString(), new TreeSet<>());
                return super.visitMethod(tree, none);
            }
        }.scan(unit, null);
    }

    private void file() {
        rule(unit.getPackageName() == null, 1, "there is a package line");
        for (ImportTree one : unit.getImports()) {
            rule(IMPORTS.contains(one.getQualifiedIdentifier().toString()), 4, "import of " + one);
        }
        rule(unit.getTypeDecls().size() == 1, 1, "there is more than one class in the file");
        rule(classes.size() <= MOST_CLASSES, 11, "there are too many classes");
    }

    @Override
    public Void visitClass(ClassTree tree, Void none) {
        String name = tree.getSimpleName().toString();
        Set<Modifier> flags = tree.getModifiers().getFlags();
        boolean outer = unit.getTypeDecls().contains(tree);
        boolean isStatic = tree.getKind() != Tree.Kind.CLASS || flags.contains(Modifier.STATIC);
        rule(methods.isEmpty() || name.isEmpty(), 2, "the class " + name + " inside a method");
        rule(outer || name.isEmpty() || isStatic, 1, name + " inside is not static");
        rule(outer || !flags.contains(Modifier.PUBLIC) && !flags.contains(Modifier.PROTECTED), 1, name + " inside is open");
        int fields = 0;
        for (Tree member : tree.getMembers()) {
            rule(!(member instanceof BlockTree), 5, name + " has an initialiser block");
            if (member instanceof VariableTree field) {
                boolean constant = field.getModifiers().getFlags().contains(Modifier.STATIC);
                fields += constant ? 0 : 1;
                rule(!constant || isConstant(field), 5, "the static field " + field.getName());
            }
        }
        rule(fields <= MOST_FIELDS, 11, name + " has too many fields");
        return super.visitClass(tree, none);
    }

    private static boolean isConstant(VariableTree field) {
        return field.getModifiers().getFlags().contains(Modifier.FINAL)
                && CONSTANT_TYPES.contains(field.getType().toString());
    }

    @Override
    public Void visitMethod(MethodTree tree, Void none) {
        long from = unit.getLineMap().getLineNumber(positions.getStartPosition(unit, tree));
        long to = unit.getLineMap().getLineNumber(positions.getEndPosition(unit, tree));
        rule(to - from < MOST_LINES, 11, tree.getName() + " is too long");
        rule(tree.getParameters().size() <= MOST_PARAMETERS, 11, tree.getName() + " takes too many parameters");
        rule(!Set.of("equals", "hashCode", "toString").contains(tree.getName().toString()), 6, tree.getName() + "");
        methods.push(tree);
        super.visitMethod(tree, none);
        methods.pop();
        return null;
    }

    private boolean inConstructor() {
        return !methods.isEmpty() && methods.peek().getReturnType() == null;
    }

    @Override
    public Void visitMethodInvocation(MethodInvocationTree tree, Void none) {
        String called = tree.getMethodSelect().toString();
        rule(!inConstructor() || called.equals("super"), 12, "a constructor calls " + called);
        String name = called.replaceFirst(".*\\.", "");
        if (!methods.isEmpty() && calls.containsKey(name)) {
            calls.get(methods.peek().getName().toString()).add(name);
        }
        return super.visitMethodInvocation(tree, none);
    }

    @Override
    public Void visitMemberSelect(MemberSelectTree tree, Void none) {
        String from = tree.getExpression().toString();
        rule(!LIBRARY.contains(from) || STATIC_CALLS.matcher(tree.toString()).matches(), 4, tree.toString());
        return super.visitMemberSelect(tree, none);
    }

    /** What begins with a large letter and a small one is the name of a class: one of the file, or one of the list. */
    @Override
    public Void visitIdentifier(IdentifierTree tree, Void none) {
        String name = tree.getName().toString();
        boolean isClass = Pattern.matches("[A-Z]\\w*[a-z]\\w*", name);
        rule(!isClass || classes.contains(name) || LIBRARY.contains(name) || EXCEPTIONS.contains(name), 4, name);
        return super.visitIdentifier(tree, none);
    }

    @Override
    public Void visitThrow(ThrowTree tree, Void none) {
        boolean right = tree.getExpression() instanceof NewClassTree made
                && EXCEPTIONS.contains(made.getIdentifier().toString()) && made.getClassBody() == null
                && areWritten(made.getArguments());
        rule(right, 6, tree.toString());
        rule(!inConstructor(), 6, "a throw in a constructor");
        return super.visitThrow(tree, none);
    }

    private static boolean areWritten(List<? extends Tree> arguments) {
        return arguments.isEmpty() || arguments.size() == 1 && arguments.get(0).getKind() == Tree.Kind.STRING_LITERAL;
    }

    @Override
    public Void visitTry(TryTree tree, Void none) {
        rule(tree.getFinallyBlock() == null && tree.getResources().isEmpty(), 6, "finally, or try with resources");
        return super.visitTry(tree, none);
    }

    @Override
    public Void visitCatch(CatchTree tree, Void none) {
        rule(EXCEPTIONS.contains(tree.getParameter().getType().toString()), 6, "catch of " + tree.getParameter());
        return super.visitCatch(tree, none);
    }

    @Override
    public Void visitLambdaExpression(LambdaExpressionTree tree, Void none) {
        rule(false, 2, "a lambda: " + tree);
        return super.visitLambdaExpression(tree, none);
    }

    @Override
    public Void visitMemberReference(MemberReferenceTree tree, Void none) {
        rule(false, 2, "a method reference: " + tree);
        return super.visitMemberReference(tree, none);
    }

    @Override
    public Void visitSynchronized(SynchronizedTree tree, Void none) {
        rule(false, 6, "synchronized");
        return super.visitSynchronized(tree, none);
    }

    @Override
    public Void visitAssert(AssertTree tree, Void none) {
        rule(false, 6, "assert");
        return super.visitAssert(tree, none);
    }

    @Override
    public Void visitBinary(BinaryTree tree, Void none) {
        boolean joins = tree.getKind() == Tree.Kind.PLUS && (tree.getLeftOperand().getKind() == Tree.Kind.STRING_LITERAL
                || tree.getRightOperand().getKind() == Tree.Kind.STRING_LITERAL);
        rule(!joins, 10, "texts joined by +: " + tree);
        return super.visitBinary(tree, none);
    }

    private void depth() {
        for (String name : calls.keySet()) {
            int deep = deepest(name, new ArrayDeque<>());
            rule(deep <= DEEPEST, 11, "calls from " + name + " go " + deep + " deep");
        }
    }

    /** The longest way of calls from a method on that comes to none of them twice, so that recursion counts once. */
    private int deepest(String name, Deque<String> open) {
        if (open.contains(name)) {
            return 0;
        }
        open.push(name);
        int most = 0;
        for (String called : calls.get(name)) {
            most = Math.max(most, deepest(called, open));
        }
        open.pop();
        return most + 1;
    }
}
