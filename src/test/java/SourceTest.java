import com.sun.source.tree.AssignmentTree;
import com.sun.source.tree.BinaryTree;
import com.sun.source.tree.BlockTree;
import com.sun.source.tree.CatchTree;
import com.sun.source.tree.ClassTree;
import com.sun.source.tree.CompilationUnitTree;
import com.sun.source.tree.CompoundAssignmentTree;
import com.sun.source.tree.DoWhileLoopTree;
import com.sun.source.tree.ExpressionTree;
import com.sun.source.tree.ForLoopTree;
import com.sun.source.tree.IdentifierTree;
import com.sun.source.tree.LiteralTree;
import com.sun.source.tree.MethodInvocationTree;
import com.sun.source.tree.MethodTree;
import com.sun.source.tree.NewClassTree;
import com.sun.source.tree.ThrowTree;
import com.sun.source.tree.Tree;
import com.sun.source.tree.TryTree;
import com.sun.source.tree.UnaryTree;
import com.sun.source.tree.WhileLoopTree;
import com.sun.source.util.JavacTask;
import com.sun.source.util.SourcePositions;
import com.sun.source.util.TreePathScanner;
import com.sun.source.util.TreeScanner;
import com.sun.source.util.Trees;
import java.io.IOException;
import java.util.List;
import java.util.Map;
import java.util.Set;
import java.util.TreeMap;
import java.util.TreeSet;
import javax.lang.model.element.Element;
import javax.tools.JavaCompiler;
import javax.tools.StandardJavaFileManager;
import javax.tools.ToolProvider;

/** What of LANGUAGE.md the source alone shows: what is left out (rules 2, 5, 6), recursion (8), loops (9), sizes and depth (11). */
public final class SourceTest extends TreePathScanner<Void, String> {
    private static final String SOURCE = "src/main/java/DesertIsCounted.java";
    private static final int DEEP = 8;
    private static final int LINES = 60;
    private static final int PARAMETERS = 7;
    private static final Set<Tree.Kind> LEFT_OUT = Set.of(Tree.Kind.LAMBDA_EXPRESSION, Tree.Kind.MEMBER_REFERENCE,
        Tree.Kind.SYNCHRONIZED, Tree.Kind.ASSERT);
    /** What the machine throws, and the classes above. */
    private static final Set<String> OF_THE_MACHINE = Set.of("ArrayIndexOutOfBoundsException", "IndexOutOfBoundsException",
        "NullPointerException", "ClassCastException", "NegativeArraySizeException", "ArrayStoreException",
        "RuntimeException", "Exception", "Throwable");

    private final Trees trees;
    private final CompilationUnitTree unit;
    private final Map<String, Set<String>> calls = new TreeMap<>();

    private SourceTest(Trees trees, CompilationUnitTree unit) {
        this.trees = trees;
        this.unit = unit;
    }

    public static void main(String[] args) throws IOException {
        Check.about("LANGUAGE.md");
        JavaCompiler compiler = ToolProvider.getSystemJavaCompiler();
        try (StandardJavaFileManager files = compiler.getStandardFileManager(null, null, null)) {
            JavacTask task = (JavacTask) compiler.getTask(null, files, null, List.of("-proc:none"), null,
                files.getJavaFileObjects(SOURCE));
            CompilationUnitTree unit = task.parse().iterator().next();
            task.analyze();
            SourceTest test = new SourceTest(Trees.instance(task), unit);
            test.scan(unit, "");
            test.looksHowDeep();
        }
        Check.end();
    }

    private long lineAt(long place) {
        return unit.getLineMap().getLineNumber(place);
    }

    private long lineOf(Tree tree) {
        return lineAt(trees.getSourcePositions().getStartPosition(unit, tree));
    }

    private void isSo(String rule, Tree at, boolean so) {
        Check.due("line " + lineOf(at) + ": " + rule, 1, so ? 1 : 0);
    }

    @Override public Void scan(Tree tree, String method) {
        if (tree != null && LEFT_OUT.contains(tree.getKind())) {
            isSo("none of " + LEFT_OUT, tree, false);
        }
        return super.scan(tree, method);
    }

    @Override public Void visitClass(ClassTree type, String method) {
        for (Tree member : type.getMembers()) {
            if (member instanceof BlockTree block) {
                isSo("no static initialiser", block, !block.isStatic());
            }
        }
        return super.visitClass(type, method);
    }

    @Override public Void visitMethod(MethodTree method, String outer) {
        SourcePositions positions = trees.getSourcePositions();
        long lines = lineAt(positions.getEndPosition(unit, method)) - lineOf(method) + 1;
        isSo(LINES + " lines at most", method, lines <= LINES);
        isSo(PARAMETERS + " parameters at most", method, method.getParameters().size() <= PARAMETERS);
        String name = nameOf(trees.getElement(getCurrentPath()));
        calls.computeIfAbsent(name, key -> new TreeSet<>());
        return super.visitMethod(method, name);
    }

    private static String nameOf(Element method) {
        return method.getEnclosingElement().getSimpleName() + "." + method.getSimpleName();
    }

    @Override public Void visitMethodInvocation(MethodInvocationTree call, String method) {
        noteCall(method);
        return super.visitMethodInvocation(call, method);
    }

    @Override public Void visitNewClass(NewClassTree made, String method) {
        noteCall(method);
        return super.visitNewClass(made, method);
    }

    private void noteCall(String method) {
        calls.computeIfAbsent(method, key -> new TreeSet<>()).add(nameOf(trees.getElement(getCurrentPath())));
    }

    /** One that calls itself goes deeper than all bounds, so it is told, too. */
    private void looksHowDeep() {
        for (String method : calls.keySet()) {
            Check.due(method + ": calls " + DEEP + " deep at most", 1, depth(method, 1) <= DEEP ? 1 : 0);
        }
    }

    private int depth(String method, int level) {
        int deepest = level;
        for (String called : level > DEEP ? Set.<String>of() : calls.getOrDefault(method, Set.of())) {
            deepest = Math.max(deepest, depth(called, level + 1));
        }
        return deepest;
    }

    @Override public Void visitThrow(ThrowTree thrown, String method) {
        isSo("no throw in a constructor", thrown, !method.endsWith(".<init>"));
        return super.visitThrow(thrown, method);
    }

    @Override public Void visitTry(TryTree tried, String method) {
        isSo("no finally, no resources", tried, tried.getFinallyBlock() == null && tried.getResources().isEmpty());
        return super.visitTry(tried, method);
    }

    @Override public Void visitCatch(CatchTree caught, String method) {
        for (String type : caught.getParameter().getType().toString().split("\\W+")) {
            isSo("what the machine throws is not caught", caught, !OF_THE_MACHINE.contains(type));
        }
        return super.visitCatch(caught, method);
    }

    // ---- loops: their own lines show a counter that goes on, against a bound

    @Override public Void visitForLoop(ForLoopTree loop, String method) {
        isSo("this loop's end can be seen", loop, goesOn(countersOf(loop.getCondition()), loop.getUpdate()));
        return super.visitForLoop(loop, method);
    }

    @Override public Void visitWhileLoop(WhileLoopTree loop, String method) {
        isSo("this loop's end can be seen", loop, goesOn(countersOf(loop.getCondition()), List.of(loop.getStatement())));
        return super.visitWhileLoop(loop, method);
    }

    @Override public Void visitDoWhileLoop(DoWhileLoopTree loop, String method) {
        isSo("this loop's end can be seen", loop, goesOn(countersOf(loop.getCondition()), List.of(loop.getStatement())));
        return super.visitDoWhileLoop(loop, method);
    }

    /** What stands on the left of a comparison. */
    private static Set<String> countersOf(ExpressionTree condition) {
        Set<String> counters = new TreeSet<>();
        new TreeScanner<Void, Void>() {
            @Override public Void visitBinary(BinaryTree two, Void nothing) {
                boolean compares = two.getKind().name().matches("(LESS|GREATER)_THAN(_EQUAL)?");
                if (compares && two.getLeftOperand() instanceof IdentifierTree left) {
                    counters.add(left.getName().toString());
                }
                return super.visitBinary(two, nothing);
            }
        }.scan(condition, null);
        return counters;
    }

    private static boolean goesOn(Set<String> counters, List<? extends Tree> lines) {
        boolean[] seen = {false, true};
        new TreeScanner<Void, Void>() {
            @Override public Void visitUnary(UnaryTree step, Void nothing) {
                seen[0] |= step.getKind().name().matches("(POST|PRE)FIX_(IN|DE)CREMENT") && isCounter(step.getExpression());
                return super.visitUnary(step, nothing);
            }

            @Override public Void visitCompoundAssignment(CompoundAssignmentTree step, Void nothing) {
                boolean plus = step.getKind() == Tree.Kind.PLUS_ASSIGNMENT || step.getKind() == Tree.Kind.MINUS_ASSIGNMENT;
                seen[0] |= plus && isCounter(step.getVariable()) && isAbove0(step.getExpression());
                return super.visitCompoundAssignment(step, nothing);
            }

            @Override public Void visitAssignment(AssignmentTree set, Void nothing) {
                seen[1] &= !isCounter(set.getVariable());
                return super.visitAssignment(set, nothing);
            }

            private boolean isCounter(ExpressionTree what) {
                return counters.contains(what.toString());
            }
        }.scan(lines, null);
        return seen[0] && seen[1];
    }

    /** A number, a sum with one, or Math.max of one; what another method answers can't be seen here. */
    private static boolean isAbove0(ExpressionTree step) {
        if (step instanceof LiteralTree number) {
            return number.getValue() instanceof Integer some && some > 0;
        }
        if (step instanceof MethodInvocationTree call) {
            return call.getMethodSelect().toString().equals("Math.max") && call.getArguments().stream().anyMatch(SourceTest::isAbove0);
        }
        return step.getKind() == Tree.Kind.PLUS && step instanceof BinaryTree sum
            && (isNumberOrName(sum.getLeftOperand(), sum.getRightOperand()) || isNumberOrName(sum.getRightOperand(), sum.getLeftOperand()));
    }

    private static boolean isNumberOrName(ExpressionTree number, ExpressionTree other) {
        return number instanceof LiteralTree && isAbove0(number) && other instanceof IdentifierTree;
    }
}
