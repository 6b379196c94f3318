import com.sun.source.tree.BinaryTree;
import com.sun.source.tree.ClassTree;
import com.sun.source.tree.CompilationUnitTree;
import com.sun.source.tree.ExpressionTree;
import com.sun.source.tree.ForLoopTree;
import com.sun.source.tree.ImportTree;
import com.sun.source.tree.MethodInvocationTree;
import com.sun.source.tree.MethodTree;
import com.sun.source.tree.NewArrayTree;
import com.sun.source.tree.NewClassTree;
import com.sun.source.tree.ThrowTree;
import com.sun.source.tree.Tree;
import com.sun.source.tree.Tree.Kind;
import com.sun.source.tree.UnaryTree;
import com.sun.source.tree.VariableTree;
import com.sun.source.util.JavacTask;
import com.sun.source.util.SourcePositions;
import com.sun.source.util.TreeScanner;
import com.sun.source.util.Trees;
import java.io.IOException;
import java.nio.file.Files;
import java.nio.file.Path;
import java.util.EnumSet;
import java.util.HashMap;
import java.util.List;
import java.util.Map;
import java.util.Set;
import java.util.TreeMap;
import java.util.TreeSet;
import javax.lang.model.element.Modifier;
import javax.tools.JavaCompiler;
import javax.tools.StandardJavaFileManager;
import javax.tools.ToolProvider;

/**
 * The class keeps to ../shared/LANGUAGE.md, as far as that can be told from its text. It is held to the
 * little of Java that it uses: what else LANGUAGE.md allows can be added to the lists here once it is needed.
 */
public final class LanguageTest extends TreeScanner<Void, Void> {
    private static final Path SOURCE = Path.of("src", "main", "java", "LessonWeave.java");

    private static final Set<Kind> KINDS = EnumSet.of(
        Kind.COMPILATION_UNIT, Kind.IMPORT, Kind.CLASS, Kind.METHOD, Kind.VARIABLE, Kind.MODIFIERS,
        Kind.PRIMITIVE_TYPE, Kind.ARRAY_TYPE, Kind.IDENTIFIER, Kind.MEMBER_SELECT,
        Kind.INT_LITERAL, Kind.BOOLEAN_LITERAL, Kind.STRING_LITERAL,
        Kind.BLOCK, Kind.EXPRESSION_STATEMENT, Kind.IF, Kind.FOR_LOOP, Kind.CONTINUE, Kind.RETURN, Kind.THROW,
        Kind.NEW_ARRAY, Kind.NEW_CLASS, Kind.METHOD_INVOCATION, Kind.ARRAY_ACCESS, Kind.PARENTHESIZED,
        Kind.ASSIGNMENT, Kind.PLUS_ASSIGNMENT, Kind.OR_ASSIGNMENT, Kind.POSTFIX_INCREMENT,
        Kind.UNARY_MINUS, Kind.BITWISE_COMPLEMENT, Kind.LOGICAL_COMPLEMENT,
        Kind.PLUS, Kind.MINUS, Kind.MULTIPLY, Kind.LEFT_SHIFT, Kind.RIGHT_SHIFT, Kind.AND, Kind.OR,
        Kind.CONDITIONAL_AND, Kind.CONDITIONAL_OR, Kind.EQUAL_TO, Kind.NOT_EQUAL_TO,
        Kind.LESS_THAN, Kind.LESS_THAN_EQUAL, Kind.GREATER_THAN, Kind.GREATER_THAN_EQUAL);
    private static final Set<String> TYPES = Set.of("int", "boolean", "int[]", "boolean[]");
    private static final Set<String> IMPORTS = Set.of("java.util.Arrays", "java.util.NoSuchElementException");
    private static final Set<String> LIBRARY = Set.of("Arrays.fill", "Integer.bitCount");
    private static final Set<String> EXCEPTIONS = Set.of("IllegalStateException", "IllegalArgumentException",
        "IndexOutOfBoundsException", "ArithmeticException", "UnsupportedOperationException",
        "NoSuchElementException", "RuntimeException");

    private static final String SET_ANEW = "\\s*(\\+\\+|--|[-+*/%&|^]?=[^=]|(<<|>>>?)=).*";

    private final CompilationUnitTree unit;
    private final SourcePositions positions;
    private final Set<String> classes = new TreeSet<>();
    private final Map<String, Set<String>> calls = new TreeMap<>();
    private final Set<String> thrown = new TreeSet<>();
    private ClassTree outer;
    private MethodTree method;
    private boolean isThrowing;

    private LanguageTest(CompilationUnitTree unit, SourcePositions positions) {
        this.unit = unit;
        this.positions = positions;
    }

    public static void main(String[] args) throws IOException {
        plainSigns();
        JavaCompiler javac = ToolProvider.getSystemJavaCompiler();
        try (StandardJavaFileManager files = javac.getStandardFileManager(null, null, null)) {
            JavacTask task = (JavacTask) javac.getTask(null, files, null, List.of("--release", "17"), null,
                files.getJavaFileObjects(SOURCE));
            for (CompilationUnitTree unit : task.parse()) {
                LanguageTest test = new LanguageTest(unit, Trees.instance(task).getSourcePositions());
                test.file();
                test.scan(unit, null);
                test.callsEnd();
            }
        }
        Checks.end();
    }

    private static void plainSigns() throws IOException {
        for (byte sign : Files.readAllBytes(SOURCE)) {
            Checks.holds("rule 4, signs 1 to 127, with " + sign, sign > 0);
        }
    }

    // ---- rules 1, 2, 4 and 11: the file and its classes

    private void file() {
        Checks.holds("rule 3, no package", unit.getPackage() == null);
        Checks.equal("rule 1, public classes", unit.getTypeDecls().size(), 1);
        outer = (ClassTree) unit.getTypeDecls().get(0);
        for (Tree member : outer.getMembers()) {
            if (member instanceof ClassTree inner) {
                classes.add(inner.getSimpleName().toString());
            }
        }
        Checks.holds("rule 11, some twelve classes", classes.size() < 12);
    }

    @Override
    public Void scan(Tree tree, Void nothing) {
        if (tree != null) {
            Checks.holds("what is allowed alone" + at(tree) + ", " + tree.getKind(), KINDS.contains(tree.getKind()));
        }
        return super.scan(tree, nothing);
    }

    @Override
    public Void visitImport(ImportTree one, Void nothing) {
        String name = one.getQualifiedIdentifier().toString();
        Checks.holds("rule 4, the library of the list" + at(one), !one.isStatic() && IMPORTS.contains(name));
        return null;
    }

    @Override
    public Void visitClass(ClassTree one, Void nothing) {
        Checks.holds("rule 2, classes inside the class alone" + at(one),
            one == outer || outer.getMembers().contains(one));
        Checks.holds("rule 2, no class above it" + at(one),
            one.getExtendsClause() == null && one.getImplementsClause().isEmpty());
        if (one != outer) {
            Set<Modifier> how = one.getModifiers().getFlags();
            Checks.holds("rule 2, hidden and static" + at(one),
                how.contains(Modifier.STATIC) && !how.contains(Modifier.PUBLIC) && !how.contains(Modifier.PROTECTED));
        }
        int fields = 0;
        for (Tree member : one.getMembers()) {
            if (member instanceof VariableTree field) {
                fields += isStatic(field) ? 0 : 1;
                constant(field);
            }
            Checks.holds("rule 5, no initialiser block" + at(member), member.getKind() != Kind.BLOCK);
        }
        Checks.holds("rule 11, some twenty fields" + at(one), fields <= 20);
        return super.visitClass(one, nothing);
    }

    private static boolean isStatic(VariableTree field) {
        return field.getModifiers().getFlags().contains(Modifier.STATIC);
    }

    private void constant(VariableTree field) {
        if (isStatic(field)) {
            Checks.holds("rule 5, a constant number" + at(field),
                field.getModifiers().getFlags().contains(Modifier.FINAL)
                    && field.getType().toString().equals("int")
                    && field.getInitializer() != null && field.getInitializer().toString().matches("-?[0-9]+"));
        }
    }

    @Override
    public Void visitVariable(VariableTree one, Void nothing) {
        String type = one.getType().toString();
        Checks.holds("rule 3, its types" + at(one) + ", " + type, TYPES.contains(type) || classes.contains(type));
        return super.visitVariable(one, nothing);
    }

    // ---- rules 6, 11 and 12: methods, and what they throw and make

    @Override
    public Void visitMethod(MethodTree one, Void nothing) {
        method = one;
        thrown.clear();
        String name = name(one);
        Checks.holds("that a name stands for one method, " + name, calls.put(name, new TreeSet<>()) == null);
        Checks.holds("rule 11, seven parameters" + at(one), one.getParameters().size() <= 7);
        long lines = lineOf(positions.getEndPosition(unit, one)) - line(one) + 1;
        Checks.holds("rule 11, some sixty lines" + at(one), lines <= 60);
        super.visitMethod(one, nothing);
        Set<String> told = new TreeSet<>();
        for (ExpressionTree exception : one.getThrows()) {
            told.add(exception.toString().replace("java.util.", ""));
        }
        Checks.holds("rule 6, what it is told to throw" + at(one) + ", " + told + " and " + thrown,
            told.equals(thrown));
        method = null;
        return null;
    }

    private String name(MethodTree one) {
        if (one.getReturnType() != null) {
            return one.getName().toString();
        }
        for (Tree member : outer.getMembers()) {
            if (member instanceof ClassTree inner && inner.getMembers().contains(one)) {
                return "new " + inner.getSimpleName();
            }
        }
        return "new " + outer.getSimpleName();
    }

    @Override
    public Void visitThrow(ThrowTree one, Void nothing) {
        Checks.holds("rule 6, no throw in a constructor" + at(one), method.getReturnType() != null);
        Checks.holds("rule 6, a new exception" + at(one), one.getExpression() instanceof NewClassTree);
        isThrowing = true;
        super.visitThrow(one, nothing);
        isThrowing = false;
        return null;
    }

    @Override
    public Void visitNewClass(NewClassTree one, Void nothing) {
        String made = one.getIdentifier().toString();
        Checks.holds("rule 2, no class without a name" + at(one), one.getClassBody() == null);
        if (isThrowing) {
            Checks.holds("rule 6, its exceptions" + at(one), EXCEPTIONS.contains(made));
            Checks.holds("rule 6, a written text" + at(one),
                one.getArguments().stream().allMatch(text -> text.getKind() == Kind.STRING_LITERAL));
            thrown.add(made);
        } else {
            Checks.holds("rule 12, made in constructors alone" + at(one), method.getReturnType() == null);
            Checks.holds("rule 4, its own classes" + at(one), classes.contains(made));
            calls.get(name(method)).add("new " + made);
        }
        return super.visitNewClass(one, nothing);
    }

    @Override
    public Void visitNewArray(NewArrayTree one, Void nothing) {
        Checks.holds("rule 12, made in constructors alone" + at(one), method != null && method.getReturnType() == null);
        Checks.holds("rule 7, a length of constants" + at(one),
            one.getDimensions().stream().allMatch(length -> length.toString().matches("[A-Z_]+( \\* [A-Z_]+)?")));
        return super.visitNewArray(one, nothing);
    }

    // ---- rule 9: loops

    /** From a number up to a bound, one by one, and the body leaves the number alone: such a loop ends. */
    @Override
    public Void visitForLoop(ForLoopTree loop, Void nothing) {
        String counter = "";
        if (loop.getInitializer().size() == 1 && loop.getInitializer().get(0) instanceof VariableTree first) {
            counter = first.getName().toString();
        }
        Checks.holds("rule 9, a counter" + at(loop), !counter.isEmpty());
        Checks.holds("rule 9, a bound" + at(loop), isBounded(loop.getCondition(), counter));
        Checks.holds("rule 9, a step" + at(loop),
            loop.getUpdate().size() == 1 && loop.getUpdate().get(0).toString().equals(counter + "++;"));
        Checks.holds("rule 9, a counter that the body leaves alone" + at(loop),
            !loop.getStatement().toString().matches("(?s).*\\b" + counter + SET_ANEW));
        return super.visitForLoop(loop, nothing);
    }

    private static boolean isBounded(Tree condition, String counter) {
        if (!(condition instanceof BinaryTree both)) {
            return false;
        }
        if (both.getKind() == Kind.CONDITIONAL_AND) {
            return isBounded(both.getLeftOperand(), counter) || isBounded(both.getRightOperand(), counter);
        }
        return both.getKind() == Kind.LESS_THAN && both.getLeftOperand().toString().equals(counter);
    }

    // ---- rules 4, 8 and 11: calls

    @Override
    public Void visitMethodInvocation(MethodInvocationTree one, Void nothing) {
        String called = one.getMethodSelect().toString();
        if (!LIBRARY.contains(called) && !called.equals("super")) {
            calls.get(name(method)).add(called.replaceFirst(".*\\.", ""));
        }
        return super.visitMethodInvocation(one, nothing);
    }

    private void callsEnd() {
        Map<String, Integer> depths = new HashMap<>();
        for (String one : calls.keySet()) {
            Checks.holds("rule 11, at most eight deep, " + one, depth(one, depths, new TreeSet<>()) <= 8);
        }
    }

    private int depth(String one, Map<String, Integer> depths, Set<String> open) {
        Checks.holds("rule 4, a call of its own or of the list, " + one, calls.containsKey(one));
        Checks.holds("rule 8, no recursion without a guard, " + one, open.add(one));
        if (!depths.containsKey(one) && calls.containsKey(one)) {
            int deepest = 0;
            depths.put(one, 0);
            for (String called : calls.get(one)) {
                deepest = Math.max(deepest, depth(called, depths, open));
            }
            depths.put(one, deepest + 1);
        }
        open.remove(one);
        return depths.getOrDefault(one, 0);
    }

    // ---- where it stands

    private String at(Tree tree) {
        return " (line " + line(tree) + ")";
    }

    private long line(Tree tree) {
        return lineOf(positions.getStartPosition(unit, tree));
    }

    private long lineOf(long position) {
        return position < 0 ? 0 : unit.getLineMap().getLineNumber(position);
    }
}
