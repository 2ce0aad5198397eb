import com.sun.source.tree.*;
import com.sun.source.util.JavacTask;
import com.sun.source.util.TreePath;
import com.sun.source.util.TreePathScanner;
import com.sun.source.util.Trees;
import java.nio.file.Path;
import java.util.HashMap;
import java.util.HashSet;
import java.util.Map;
import java.util.Set;
import java.util.TreeSet;
import javax.lang.model.element.Element;
import javax.lang.model.element.Modifier;
import javax.tools.JavaCompiler;
import javax.tools.StandardJavaFileManager;
import javax.tools.ToolProvider;

/**
 * What of ../shared/LANGUAGE.md can be read off the program's source, told by the numbers of its rules. It
 * is narrower where the program needs less than a rule leaves: no import, no try, no loop but for.
 */
final class LanguageTest extends TreePathScanner<Void, Void> {
    private static final Path PROGRAM = Path.of("src/main/java/StoodMinutes.java");
    private static final Set<String> LIBRARY =
            Set.of("Math.min", "Math.max", "Math.floorMod", "System.arraycopy");
    private static final Set<String> THROWN = Set.of("IllegalStateException", "IllegalArgumentException",
            "IndexOutOfBoundsException");
    private static final Set<Tree.Kind> TYPES = Set.of(Tree.Kind.PRIMITIVE_TYPE, Tree.Kind.IDENTIFIER);
    private static final Set<String> OBJECTS = new HashSet<>(Set.of("String"));
    private static final int MOST_PARAMETERS = 7;
    private static final int MOST_LINES = 60;
    private static final int MOST_DEPTH = 8;
    private static final int MOST_CLASSES = 12;
    private static final int MOST_FIELDS = 20;
    private static final Due due = new Due();

    private final Trees trees;
    private final CompilationUnitTree file;
    private final Map<Element, Set<Element>> calls = new HashMap<>();
    private final Set<String> constants = new HashSet<>();
    private final Set<String> broken = new TreeSet<>();
    private int classes = 0;

    private LanguageTest(Trees trees, CompilationUnitTree file) {
        this.trees = trees;
        this.file = file;
    }

    public static void main(String[] args) throws Exception {
        JavaCompiler compiler = ToolProvider.getSystemJavaCompiler();
        try (StandardJavaFileManager files = compiler.getStandardFileManager(null, null, null)) {
            JavacTask task = (JavacTask) compiler.getTask(null, files, null, null, null,
                    files.getJavaFileObjects(PROGRAM));
            CompilationUnitTree file = task.parse().iterator().next();
            task.analyze();
            new LanguageTest(Trees.instance(task), file).read();
        }
        due.end("LanguageTest");
    }

    private void read() {
        due.compare("rule 1: no package line", "null", String.valueOf(file.getPackage()));
        due.compare("rule 4: no import", "[]", file.getImports().toString().replaceAll("^$", "[]"));
        due.is("rule 1: one class in the file", 1, () -> file.getTypeDecls().size());
        for (Tree member : ((ClassTree) file.getTypeDecls().get(0)).getMembers()) {
            if (member instanceof ClassTree inside) {
                OBJECTS.add(inside.getSimpleName().toString());
            }
        }
        scan(file, null);
        due.compare("the rules that are broken", "[]", broken.toString());
        due.compare("rule 11: classes", "true", String.valueOf(classes >= 1 && classes <= MOST_CLASSES));
        due.compare("rules 8 and 11: how deep calls go", "true",
                String.valueOf(calls.size() > 100 && deepest() <= MOST_DEPTH));
    }

    private void broken(int rule, Tree tree) {
        long line = file.getLineMap().getLineNumber(trees.getSourcePositions().getStartPosition(file, tree));
        broken.add("rule " + rule + ", line " + line);
    }

    private void check(int rule, boolean kept, Tree tree) {
        if (!kept) {
            broken(rule, tree);
        }
    }

    // ---- classes, methods, fields

    @Override
    public Void visitClass(ClassTree tree, Void none) {
        classes++;
        boolean outermost = getCurrentPath().getParentPath().getLeaf() == file;
        Set<Modifier> flags = tree.getModifiers().getFlags();
        check(2, outermost || flags.contains(Modifier.STATIC) && !flags.contains(Modifier.PUBLIC), tree);
        check(2, tree.getKind() == Tree.Kind.CLASS, tree);
        int fields = 0;
        for (Tree member : tree.getMembers()) {
            check(5, !(member instanceof BlockTree), member);
            if (member instanceof VariableTree field) {
                fields += field.getModifiers().getFlags().contains(Modifier.STATIC) ? 0 : 1;
                checkField(field);
            }
        }
        check(11, fields <= MOST_FIELDS, tree);
        return super.visitClass(tree, none);
    }

    private void checkField(VariableTree field) {
        Set<Modifier> flags = field.getModifiers().getFlags();
        if (flags.contains(Modifier.STATIC)) {
            constants.add(field.getName().toString());
            String type = field.getType().toString();
            check(5, flags.contains(Modifier.FINAL), field);
            check(5, type.equals("int") || type.equals("int[]") && written(field.getInitializer()), field);
        }
    }

    private static boolean written(ExpressionTree made) {
        return made instanceof NewArrayTree array && array.getInitializers() != null;
    }

    @Override
    public Void visitMethod(MethodTree tree, Void none) {
        long from = trees.getSourcePositions().getStartPosition(file, tree);
        long to = trees.getSourcePositions().getEndPosition(file, tree);
        LineMap lines = file.getLineMap();
        check(11, lines.getLineNumber(to) - lines.getLineNumber(from) < MOST_LINES, tree);
        check(11, tree.getParameters().size() <= MOST_PARAMETERS, tree);
        calls.computeIfAbsent(trees.getElement(getCurrentPath()), method -> new HashSet<>());
        return super.visitMethod(tree, none);
    }

    @Override
    public Void visitVariable(VariableTree tree, Void none) {
        Tree type = tree.getType();
        boolean row = type instanceof ArrayTypeTree;
        Tree element = row ? ((ArrayTypeTree) type).getType() : type;
        check(3, TYPES.contains(element.getKind()), tree);
        check(3, element.getKind() != Tree.Kind.IDENTIFIER || OBJECTS.contains(element.toString()), tree);
        return super.visitVariable(tree, none);
    }

    // ---- calls, exceptions, objects

    @Override
    public Void visitMethodInvocation(MethodInvocationTree tree, Void none) {
        String name = tree.getMethodSelect().toString();
        Element called = trees.getElement(getCurrentPath());
        if (trees.getTree(called) == null) {
            // an outermost constructor begins with the call of Object's
            check(4, LIBRARY.contains(name) || name.equals("super"), tree);
        } else {
            calls.computeIfAbsent(caller(), method -> new HashSet<>()).add(called);
        }
        return super.visitMethodInvocation(tree, none);
    }

    /** The method in which the scan is; the class, in a field's beginning. */
    private Element caller() {
        TreePath path = getCurrentPath();
        while (!(path.getLeaf() instanceof MethodTree) && !(path.getLeaf() instanceof ClassTree)) {
            path = path.getParentPath();
        }
        return trees.getElement(path);
    }

    private boolean isInConstructor() {
        return caller().getSimpleName().contentEquals("<init>") || caller().getKind().isClass();
    }

    @Override
    public Void visitThrow(ThrowTree tree, Void none) {
        boolean kept = tree.getExpression() instanceof NewClassTree made
                && THROWN.contains(made.getIdentifier().toString())
                && made.getArguments().size() == 1
                && made.getArguments().get(0).getKind() == Tree.Kind.STRING_LITERAL;
        check(6, kept && !isInConstructor(), tree);
        return super.visitThrow(tree, none);
    }

    @Override
    public Void visitNewClass(NewClassTree tree, Void none) {
        check(12, isInConstructor() || getCurrentPath().getParentPath().getLeaf() instanceof ThrowTree, tree);
        check(2, tree.getClassBody() == null, tree);
        return super.visitNewClass(tree, none);
    }

    @Override
    public Void visitNewArray(NewArrayTree tree, Void none) {
        check(12, isInConstructor(), tree);
        check(3, tree.getDimensions().size() <= 1, tree);
        return super.visitNewArray(tree, none);
    }

    @Override
    public Void visitAssignment(AssignmentTree tree, Void none) {
        boolean constant = tree.getVariable() instanceof ArrayAccessTree access
                && constants.contains(access.getExpression().toString());
        check(5, !constant, tree);
        return super.visitAssignment(tree, none);
    }

    // ---- what the rules, or the program, leave out

    @Override
    public Void visitForLoop(ForLoopTree tree, Void none) {
        check(9, tree.getCondition() instanceof BinaryTree && tree.getUpdate().size() == 1, tree);
        return super.visitForLoop(tree, none);
    }

    @Override
    public Void scan(Tree tree, Void none) {
        if (tree != null) {
            switch (tree.getKind()) {
                case WHILE_LOOP, DO_WHILE_LOOP -> broken(9, tree);
                case LAMBDA_EXPRESSION, MEMBER_REFERENCE -> broken(2, tree);
                case TRY, SYNCHRONIZED, ASSERT -> broken(6, tree);
                case TYPE_CAST -> check(7, ((TypeCastTree) tree).getType() instanceof PrimitiveTypeTree, tree);
                case STRING_LITERAL -> check(10, getCurrentPath().getLeaf() instanceof NewClassTree, tree);
                case DIVIDE, REMAINDER -> check(7, isDivisor(((BinaryTree) tree).getRightOperand()), tree);
                case DIVIDE_ASSIGNMENT, REMAINDER_ASSIGNMENT ->
                        check(7, isDivisor(((CompoundAssignmentTree) tree).getExpression()), tree);
                default -> { }
            }
        }
        return super.scan(tree, none);
    }

    /** A written number or a constant; or one of the two of a simulation's turn, which are at least 1. */
    private boolean isDivisor(ExpressionTree tree) {
        String told = tree.toString();
        return told.matches("[1-9]\\d*") || constants.contains(told) || Set.of("there", "came").contains(told);
    }

    /** How many calls stand open at most; far more than the rule allows, if a method comes back to itself. */
    private int deepest() {
        int most = 0;
        for (Element method : calls.keySet()) {
            most = Math.max(most, depth(method, 1));
        }
        return most;
    }

    private int depth(Element method, int above) {
        int most = above;
        if (above <= 2 * MOST_DEPTH) {
            for (Element called : calls.getOrDefault(method, Set.of())) {
                most = Math.max(most, depth(called, above + 1));
            }
        }
        return most;
    }
}
