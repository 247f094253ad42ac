import com.sun.source.tree.BinaryTree;
import com.sun.source.tree.ClassTree;
import com.sun.source.tree.CompoundAssignmentTree;
import com.sun.source.tree.CompilationUnitTree;
import com.sun.source.tree.ExpressionTree;
import com.sun.source.tree.ForLoopTree;
import com.sun.source.tree.LiteralTree;
import com.sun.source.tree.MethodInvocationTree;
import com.sun.source.tree.MethodTree;
import com.sun.source.tree.NewClassTree;
import com.sun.source.tree.Tree;
import com.sun.source.util.JavacTask;
import com.sun.source.util.TreePath;
import com.sun.source.util.TreePathScanner;
import com.sun.source.util.Trees;
import java.nio.file.Path;
import java.util.ArrayList;
import java.util.LinkedHashMap;
import java.util.LinkedHashSet;
import java.util.List;
import java.util.Map;
import java.util.Set;
import javax.lang.model.element.Element;
import javax.lang.model.element.ElementKind;
import javax.lang.model.element.VariableElement;
import javax.tools.JavaCompiler;
import javax.tools.StandardJavaFileManager;
import javax.tools.ToolProvider;

/**
 * The rules of LANGUAGE.md about which calls there are and how deep they go, looked up with the compiler's own reading of
 * the class: no recursion (8), at most eight calls open at once, the library's counted (11), no library but what is
 * listed (4), no divisor that has not been looked at (7), and no loop without a condition (9).
 */
public final class CallsTest {
    private static final Path CLASS = Path.of("src/main/java/ChartDesk.java");
    private static final int DEEPEST = 8;
    private static final Set<String> LIBRARY = Set.of("java.lang.Math.max", "java.lang.Math.min",
            "java.lang.Integer.numberOfLeadingZeros", "java.util.Arrays.fill", "java.lang.System.arraycopy");
    /**
     * Divisors that are no constants, each tested where it stands: a word above 0 by Math.max, Euclid's lesser number while
     * it is above 1, a prime of the table, restBy's after its guard, and the draw's WHOLE by Math.max.
     */
    private static final Set<String> DIVISORS = Set.of("wide", "high", "low", "prime", "divisor",
            "Math.max(1, chances.sum)", "Math.max(1, states)");
    private static int wrong = 0;

    private static void must(boolean holds, String rule) {
        if (!holds) {
            wrong++;
            System.out.println("broken: " + rule);
        }
    }

    /** Who calls whom. What a class's fields begin with counts as its constructor's. */
    private static final class Reader extends TreePathScanner<Void, Element> {
        final Trees trees;
        final Map<Element, Set<Element>> calls = new LinkedHashMap<>();

        Reader(Trees trees) {
            this.trees = trees;
        }

        @Override
        public Void visitClass(ClassTree tree, Element from) {
            Element constructor = null;
            for (Element member : trees.getElement(getCurrentPath()).getEnclosedElements()) {
                if (member.getKind() == ElementKind.CONSTRUCTOR) {
                    constructor = member;
                    calls.putIfAbsent(member, new LinkedHashSet<>());
                }
            }
            return super.visitClass(tree, constructor);
        }

        @Override
        public Void visitMethod(MethodTree tree, Element from) {
            Element method = trees.getElement(getCurrentPath());
            calls.putIfAbsent(method, new LinkedHashSet<>());
            return super.visitMethod(tree, method);
        }

        @Override
        public Void visitMethodInvocation(MethodInvocationTree tree, Element from) {
            note(from, trees.getElement(new TreePath(getCurrentPath(), tree.getMethodSelect())));
            return super.visitMethodInvocation(tree, from);
        }

        @Override
        public Void visitNewClass(NewClassTree tree, Element from) {
            must(tree.getClassBody() == null, "2: no anonymous class");
            note(from, trees.getElement(getCurrentPath()));
            return super.visitNewClass(tree, from);
        }

        private void note(Element from, Element to) {
            if (from != null && to != null && !name(to).equals("java.lang.Object.<init>")) {
                calls.get(from).add(to);
            }
        }

        @Override
        public Void visitBinary(BinaryTree tree, Element from) {
            if (tree.getKind() == Tree.Kind.DIVIDE || tree.getKind() == Tree.Kind.REMAINDER) {
                divisor(tree.getRightOperand());
            }
            return super.visitBinary(tree, from);
        }

        @Override
        public Void visitCompoundAssignment(CompoundAssignmentTree tree, Element from) {
            if (tree.getKind() == Tree.Kind.DIVIDE_ASSIGNMENT || tree.getKind() == Tree.Kind.REMAINDER_ASSIGNMENT) {
                divisor(tree.getExpression());
            }
            return super.visitCompoundAssignment(tree, from);
        }

        private void divisor(ExpressionTree by) {
            boolean good = DIVISORS.contains(by.toString());
            if (by instanceof LiteralTree literal) {
                good = !literal.getValue().equals(0);
            }
            if (trees.getElement(new TreePath(getCurrentPath(), by)) instanceof VariableElement named
                    && named.getConstantValue() instanceof Integer value) {
                good = value != 0;
            }
            must(good, "7: the divisor " + by + " has not been looked at");
        }

        @Override
        public Void visitForLoop(ForLoopTree tree, Element from) {
            must(tree.getCondition() != null, "9: a loop has no condition");
            return super.visitForLoop(tree, from);
        }
    }

    private static String name(Element method) {
        return method.getEnclosingElement() + "." + method.getSimpleName();
    }

    /** How many calls stand open at most below a method, itself counted. */
    private static int depth(Element method, Reader read, List<Element> open, Map<Element, Integer> known) {
        if (known.containsKey(method)) {
            return known.get(method);
        }
        if (open.contains(method)) {
            must(false, "8: " + name(method) + " comes back to itself");
            return 0;
        }
        int below = 0;
        if (read.calls.containsKey(method)) {
            open.add(method);
            for (Element called : read.calls.get(method)) {
                below = Math.max(below, depth(called, read, open, known));
            }
            open.remove(open.size() - 1);
        } else {
            must(LIBRARY.contains(name(method)), "4: use of " + name(method));
        }
        known.put(method, below + 1);
        return below + 1;
    }

    private static Reader read() throws Exception {
        JavaCompiler compiler = ToolProvider.getSystemJavaCompiler();
        try (StandardJavaFileManager files = compiler.getStandardFileManager(null, null, null)) {
            JavacTask task = (JavacTask) compiler.getTask(null, files, null, null, null, files.getJavaFileObjects(CLASS));
            Reader reader = new Reader(Trees.instance(task));
            Iterable<? extends CompilationUnitTree> units = task.parse();
            task.analyze();
            for (CompilationUnitTree unit : units) {
                reader.scan(unit, null);
            }
            return reader;
        }
    }

    public static void main(String[] arguments) throws Exception {
        Reader read = read();
        Map<Element, Integer> known = new LinkedHashMap<>();
        int deepest = 0;
        for (Element method : read.calls.keySet()) {
            deepest = Math.max(deepest, depth(method, read, new ArrayList<>(), known));
        }
        must(deepest <= DEEPEST, "11: calls go " + deepest + " deep");
        must(read.calls.size() > 100, "only " + read.calls.size() + " methods were read");
        System.out.println(read.calls.size() + " methods, " + deepest + " deep: "
                + (wrong == 0 ? "no rule is broken" : wrong + " rules are broken"));
        if (wrong != 0) {
            System.exit(1);
        }
    }
}
