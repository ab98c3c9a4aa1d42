import com.sun.source.tree.ArrayAccessTree;
import com.sun.source.tree.AssignmentTree;
import com.sun.source.tree.BinaryTree;
import com.sun.source.tree.BlockTree;
import com.sun.source.tree.ClassTree;
import com.sun.source.tree.CompilationUnitTree;
import com.sun.source.tree.CompoundAssignmentTree;
import com.sun.source.tree.ExpressionStatementTree;
import com.sun.source.tree.ExpressionTree;
import com.sun.source.tree.ForLoopTree;
import com.sun.source.tree.IdentifierTree;
import com.sun.source.tree.MethodInvocationTree;
import com.sun.source.tree.MethodTree;
import com.sun.source.tree.NewArrayTree;
import com.sun.source.tree.NewClassTree;
import com.sun.source.tree.ParenthesizedTree;
import com.sun.source.tree.Tree;
import com.sun.source.tree.UnaryTree;
import com.sun.source.tree.VariableTree;
import com.sun.source.util.JavacTask;
import com.sun.source.util.SourcePositions;
import com.sun.source.util.TreePath;
import com.sun.source.util.TreePathScanner;
import com.sun.source.util.TreeScanner;
import com.sun.source.util.Trees;
import java.io.IOException;
import java.nio.file.Path;
import java.util.HashMap;
import java.util.HashSet;
import java.util.List;
import java.util.Map;
import java.util.Set;
import java.util.TreeSet;
import javax.lang.model.element.Element;
import javax.lang.model.element.ElementKind;
import javax.lang.model.element.ExecutableElement;
import javax.lang.model.element.Modifier;
import javax.lang.model.element.VariableElement;
import javax.lang.model.type.ArrayType;
import javax.lang.model.type.TypeKind;
import javax.lang.model.type.TypeMirror;
import javax.tools.JavaCompiler;
import javax.tools.StandardJavaFileManager;
import javax.tools.ToolProvider;

/** Those rules of LANGUAGE.md that the source shows, read by the compiler itself; the checks bear the rules' numbers. */
public final class LanguageTest extends TreePathScanner<Void, Void> {
    private static final int MOST_LINES = 60, MOST_DEEP = 8, MOST_CLASSES = 12, MOST_FIELDS = 20, MOST_PARAMETERS = 7;
    /** Of what rule 4 lists, all that the class needs. */
    private static final Set<String> LIBRARY = Set.of("Math.max", "Math.min", "String.length", "String.charAt");
    /** What rules 2 and 6 leave out, and loops whose end a counter does not show (rule 9). */
    private static final Set<Tree.Kind> LEFT_OUT = Set.of(Tree.Kind.THROW, Tree.Kind.TRY, Tree.Kind.SYNCHRONIZED,
        Tree.Kind.ASSERT, Tree.Kind.LAMBDA_EXPRESSION, Tree.Kind.MEMBER_REFERENCE, Tree.Kind.WHILE_LOOP,
        Tree.Kind.DO_WHILE_LOOP, Tree.Kind.INSTANCE_OF, Tree.Kind.IMPORT);
    private static final Check check = new Check();

    private final Trees trees;
    private final CompilationUnitTree unit;
    private final Map<Element, Set<Element>> calls = new HashMap<>();
    private final Set<String> classes = new TreeSet<>();
    private Element caller;

    private LanguageTest(Trees trees, CompilationUnitTree unit) {
        this.trees = trees;
        this.unit = unit;
    }

    public static void main(String[] args) throws IOException {
        check.part("LANGUAGE.md");
        Path source = Path.of(System.getProperty("project.root", "."), "src", "main", "java", "PointsOffice.java");
        JavaCompiler compiler = ToolProvider.getSystemJavaCompiler();
        try (StandardJavaFileManager files = compiler.getStandardFileManager(null, null, null)) {
            JavacTask task = (JavacTask) compiler.getTask(null, files, null, List.of("-proc:none"), null,
                    files.getJavaFileObjects(source));
            CompilationUnitTree unit = task.parse().iterator().next();
            task.analyze();
            LanguageTest test = new LanguageTest(Trees.instance(task), unit);
            test.scan(unit, null);
            test.afterAll();
        }
        check.finish();
    }

    private void afterAll() {
        check.isTrue("11: classes: " + classes, classes.size() > 1 && classes.size() <= MOST_CLASSES);
        check.isTrue("11: calls were found", calls.size() > 26);
        for (Element method : calls.keySet()) {
            int deep = depth(method, new HashSet<>());
            check.isTrue("8, 11: calls below " + method + " go " + deep + " deep", deep <= MOST_DEEP);
        }
    }

    /** How many calls stand open at most, this one too; a call of one that is open already is far too deep. */
    private int depth(Element method, Set<Element> open) {
        if (!open.add(method)) {
            return 1000;
        }
        int below = 0;
        for (Element called : calls.getOrDefault(method, Set.of())) {
            below = Math.max(below, depth(called, open));
        }
        open.remove(method);
        return below + 1;
    }

    private String where(Tree tree) {
        SourcePositions positions = trees.getSourcePositions();
        return " (line " + unit.getLineMap().getLineNumber(positions.getStartPosition(unit, tree)) + ")";
    }

    private int linesOf(Tree tree) {
        SourcePositions positions = trees.getSourcePositions();
        long first = unit.getLineMap().getLineNumber(positions.getStartPosition(unit, tree));
        return (int) (unit.getLineMap().getLineNumber(positions.getEndPosition(unit, tree)) - first + 1);
    }

    @Override
    public Void scan(Tree tree, Void none) {
        if (tree != null && LEFT_OUT.contains(tree.getKind())) {
            check.isTrue("2, 6, 9: no " + tree.getKind() + where(tree), false);
        }
        return super.scan(tree, none);
    }

    @Override
    public Void visitClass(ClassTree tree, Void none) {
        Element itself = trees.getElement(getCurrentPath());
        classes.add(itself.toString());
        boolean outermost = itself.getEnclosingElement().getKind() == ElementKind.PACKAGE;
        check.isTrue("1, 2: " + itself + " is the face or static", outermost
                ? tree.getModifiers().getFlags().containsAll(Set.of(Modifier.PUBLIC, Modifier.FINAL))
                : tree.getModifiers().getFlags().contains(Modifier.STATIC));
        int fields = 0;
        for (Tree member : tree.getMembers()) {
            if (member instanceof BlockTree) {
                check.isTrue("5: no initialiser block" + where(member), false);
            }
            if (member instanceof VariableTree field && !field.getModifiers().getFlags().contains(Modifier.STATIC)) {
                fields++;
            }
        }
        check.isTrue("11: fields of " + itself + ": " + fields, fields <= MOST_FIELDS);
        return super.visitClass(tree, none);
    }

    @Override
    public Void visitVariable(VariableTree tree, Void none) {
        Element itself = trees.getElement(getCurrentPath());
        check.isTrue("3: a type that is left: " + itself + where(tree), isLeft(itself.asType()));
        if (itself.getModifiers().contains(Modifier.STATIC)) {
            boolean row = itself.asType().getKind() == TypeKind.ARRAY;
            check.isTrue("5: " + itself + " is final", itself.getModifiers().contains(Modifier.FINAL));
            check.isTrue("5: " + itself + " is written out", row
                    ? tree.getInitializer() instanceof NewArrayTree written && written.getInitializers() != null
                    : ((VariableElement) itself).getConstantValue() != null);
        }
        return super.visitVariable(tree, none);
    }

    /** Rule 3, as far as the class needs it: numbers, truth, rows of numbers, String, classes of its own. */
    private boolean isLeft(TypeMirror type) {
        if (type.getKind() == TypeKind.ARRAY) {
            return ((ArrayType) type).getComponentType().getKind() == TypeKind.INT;
        }
        boolean number = type.getKind() == TypeKind.INT || type.getKind() == TypeKind.LONG;
        String name = type.toString();
        return number || type.getKind() == TypeKind.BOOLEAN || name.equals("java.lang.String")
                || name.startsWith("PointsOffice.");
    }

    @Override
    public Void visitMethod(MethodTree tree, Void none) {
        caller = trees.getElement(getCurrentPath());
        calls.putIfAbsent(caller, new HashSet<>());
        check.isTrue("11: " + caller + " is short", linesOf(tree) <= MOST_LINES);
        check.isTrue("11: parameters of " + caller, tree.getParameters().size() <= MOST_PARAMETERS);
        boolean inside = caller.getEnclosingElement().getEnclosingElement().getKind() != ElementKind.PACKAGE;
        check.isTrue("1: " + caller + " is of the face or private", caller.getModifiers().contains(Modifier.PRIVATE)
                || !inside && caller.getModifiers().contains(Modifier.PUBLIC));
        Void answer = super.visitMethod(tree, none);
        caller = null;
        return answer;
    }

    @Override
    public Void visitMethodInvocation(MethodInvocationTree tree, Void none) {
        Element called = trees.getElement(getCurrentPath());
        if (called instanceof ExecutableElement method) {
            noteCall(method, tree);
        } else {
            check.isTrue("4: a call that the compiler knows" + where(tree), false);
        }
        return super.visitMethodInvocation(tree, none);
    }

    @Override
    public Void visitNewClass(NewClassTree tree, Void none) {
        noteCall((ExecutableElement) trees.getElement(getCurrentPath()), tree);
        check.isTrue("2: no class without a name" + where(tree), tree.getClassBody() == null);
        madeInConstructor(tree);
        return super.visitNewClass(tree, none);
    }

    @Override
    public Void visitNewArray(NewArrayTree tree, Void none) {
        madeInConstructor(tree);
        return super.visitNewArray(tree, none);
    }

    /** No call makes an object, so that the room of a run never fills. */
    private void madeInConstructor(Tree tree) {
        check.isTrue("12: made in a constructor or with a field" + where(tree),
                caller == null || caller.getKind() == ElementKind.CONSTRUCTOR);
    }

    private void noteCall(ExecutableElement called, Tree tree) {
        String owner = called.getEnclosingElement().toString();
        if (owner.startsWith("PointsOffice")) {
            if (caller != null) {
                calls.get(caller).add(called);
            }
        } else if (!owner.equals("java.lang.Object") || called.getKind() != ElementKind.CONSTRUCTOR) {
            String name = owner.replace("java.lang.", "") + "." + called.getSimpleName();
            check.isTrue("4: " + name + where(tree), LIBRARY.contains(name));
        }
    }

    @Override
    public Void visitAssignment(AssignmentTree tree, Void none) {
        if (tree.getVariable() instanceof ArrayAccessTree access) {
            Element row = trees.getElement(new TreePath(getCurrentPath(), access.getExpression()));
            check.isTrue("5: a constant row is not changed" + where(tree),
                    row != null && !row.getModifiers().contains(Modifier.STATIC));
        }
        return super.visitAssignment(tree, none);
    }

    @Override
    public Void visitForLoop(ForLoopTree tree, Void none) {
        boolean one = tree.getInitializer().size() == 1 && tree.getUpdate().size() == 1;
        check.isTrue("9: one counter" + where(tree), one && tree.getInitializer().get(0) instanceof VariableTree);
        if (one && tree.getInitializer().get(0) instanceof VariableTree counter) {
            String name = counter.getName().toString();
            check.isTrue("9: it goes up by one" + where(tree), goesUp(tree.getUpdate().get(0), name));
            check.isTrue("9: it has a bound" + where(tree), hasBound(tree.getCondition(), name));
            check.isTrue("9: nothing else moves it" + where(tree), !isMovedIn(tree.getStatement(), name));
        }
        return super.visitForLoop(tree, none);
    }

    private static boolean isNamed(Tree tree, String name) {
        return tree instanceof IdentifierTree found && found.getName().contentEquals(name);
    }

    private static boolean goesUp(ExpressionStatementTree update, String name) {
        ExpressionTree step = update.getExpression();
        return step.getKind() == Tree.Kind.POSTFIX_INCREMENT && isNamed(((UnaryTree) step).getExpression(), name);
    }

    private static boolean hasBound(ExpressionTree condition, String name) {
        if (condition instanceof ParenthesizedTree inside) {
            return hasBound(inside.getExpression(), name);
        }
        if (!(condition instanceof BinaryTree two)) {
            return false;
        }
        if (two.getKind() == Tree.Kind.CONDITIONAL_AND) {
            return hasBound(two.getLeftOperand(), name) || hasBound(two.getRightOperand(), name);
        }
        boolean below = two.getKind() == Tree.Kind.LESS_THAN || two.getKind() == Tree.Kind.LESS_THAN_EQUAL;
        return below && isNamed(two.getLeftOperand(), name);
    }

    private static boolean isMovedIn(Tree body, String name) {
        Boolean moved = new TreeScanner<Boolean, Void>() {
            @Override
            public Boolean visitAssignment(AssignmentTree tree, Void none) {
                return isNamed(tree.getVariable(), name) || is(super.visitAssignment(tree, none));
            }

            @Override
            public Boolean visitCompoundAssignment(CompoundAssignmentTree tree, Void none) {
                return isNamed(tree.getVariable(), name) || is(super.visitCompoundAssignment(tree, none));
            }

            @Override
            public Boolean visitUnary(UnaryTree tree, Void none) {
                boolean moves = tree.getKind().name().endsWith("CREMENT");
                return moves && isNamed(tree.getExpression(), name) || is(super.visitUnary(tree, none));
            }

            @Override
            public Boolean reduce(Boolean one, Boolean other) {
                return is(one) || is(other);
            }

            private boolean is(Boolean found) {
                return found != null && found;
            }
        }.scan(body, null);
        return moved != null && moved;
    }
}
