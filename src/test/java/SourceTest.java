import com.sun.source.tree.AssignmentTree;
import com.sun.source.tree.BinaryTree;
import com.sun.source.tree.CompilationUnitTree;
import com.sun.source.tree.CompoundAssignmentTree;
import com.sun.source.tree.ExpressionTree;
import com.sun.source.tree.ForLoopTree;
import com.sun.source.tree.IdentifierTree;
import com.sun.source.tree.MethodInvocationTree;
import com.sun.source.tree.MethodTree;
import com.sun.source.tree.NewArrayTree;
import com.sun.source.tree.NewClassTree;
import com.sun.source.tree.ParenthesizedTree;
import com.sun.source.tree.Tree;
import com.sun.source.tree.UnaryTree;
import com.sun.source.tree.VariableTree;
import com.sun.source.util.JavacTask;
import com.sun.source.util.TreePath;
import com.sun.source.util.TreePathScanner;
import com.sun.source.util.TreeScanner;
import com.sun.source.util.Trees;
import java.io.File;
import java.io.IOException;
import java.lang.management.ManagementFactory;
import java.nio.charset.StandardCharsets;
import java.util.HashMap;
import java.util.HashSet;
import java.util.List;
import java.util.Map;
import java.util.Set;
import javax.lang.model.element.Element;
import javax.lang.model.element.ElementKind;
import javax.lang.model.element.Modifier;
import javax.tools.JavaCompiler;
import javax.tools.StandardJavaFileManager;
import javax.tools.ToolProvider;

/** LANGUAGE.md's rules 7, 8, 9, 11 and 12, by the compiler's tree of the source; and what the dearest calls make. */
public final class SourceTest {
    private static final int DEEPEST = 8;
    private static final int LONGEST = 60;

    public static void main(String[] args) throws IOException {
        JavaCompiler compiler = ToolProvider.getSystemJavaCompiler();
        StandardJavaFileManager files = compiler.getStandardFileManager(null, null, StandardCharsets.UTF_8);
        JavacTask task = (JavacTask) compiler.getTask(null, files, null, List.of("-proc:none"), null,
            files.getJavaFileObjects(new File("src/main/java/ShipFromItself.java")));
        CompilationUnitTree unit = task.parse().iterator().next();
        task.analyze();
        Source source = new Source(unit, Trees.instance(task));
        source.scan(unit, null);
        Check.sentence("rule 8: no recursion; rule 11: calls go eight deep at most", source::depths);
        Check.sentence("rule 11: methods of some sixty lines, of seven parameters", source::sizes);
        Check.sentence("rule 12: none but constructors make objects", source::makers);
        Check.sentence("rule 9: every loop has an end that can be seen", source::loops);
        Check.sentence("rule 12: what a run makes is small", SourceTest::callsMakeNothing);
        Check.sentence("each of 512 calls is answered, the dearest too", SourceTest::dearestCalls);
        Check.end();
    }

    /** What the tree of the file tells: which method calls which, where objects are made, how loops end. */
    private static final class Source extends TreePathScanner<Void, Void> {
        private final CompilationUnitTree unit;
        private final Trees trees;
        private final Map<Element, Set<Element>> calls = new HashMap<>();
        private final Map<Element, Integer> depth = new HashMap<>();
        private final Map<String, Integer> lines = new HashMap<>();
        private final Map<String, Integer> parameters = new HashMap<>();
        private final Map<String, Boolean> madeWell = new HashMap<>();
        private final Map<String, Boolean> loopEnds = new HashMap<>();

        Source(CompilationUnitTree unit, Trees trees) {
            this.unit = unit;
            this.trees = trees;
        }

        private String at(Tree tree) {
            long position = trees.getSourcePositions().getStartPosition(unit, tree);
            return "line " + unit.getLineMap().getLineNumber(position);
        }

        /** The method around; of a field's initialiser the field itself. */
        private Element around() {
            for (TreePath path = getCurrentPath(); path != null; path = path.getParentPath()) {
                Element element = trees.getElement(path);
                boolean method = path.getLeaf() instanceof MethodTree;
                boolean field = path.getLeaf() instanceof VariableTree && element.getKind() == ElementKind.FIELD;
                if (method || field) {
                    return element;
                }
            }
            throw new IllegalStateException("neither a method nor a field");
        }

        private void callOf(Element callee) {
            calls.computeIfAbsent(around(), caller -> new HashSet<>()).add(callee);
        }

        @Override
        public Void visitMethod(MethodTree method, Void nothing) {
            long begin = trees.getSourcePositions().getStartPosition(unit, method);
            long end = trees.getSourcePositions().getEndPosition(unit, method);
            String name = method.getName() + ", " + at(method);
            lines.put(name, (int) (unit.getLineMap().getLineNumber(end) - unit.getLineMap().getLineNumber(begin)) + 1);
            parameters.put(name, method.getParameters().size());
            calls.computeIfAbsent(trees.getElement(getCurrentPath()), caller -> new HashSet<>());
            return super.visitMethod(method, nothing);
        }

        @Override
        public Void visitMethodInvocation(MethodInvocationTree call, Void nothing) {
            callOf(trees.getElement(getCurrentPath()));
            return super.visitMethodInvocation(call, nothing);
        }

        @Override
        public Void visitNewClass(NewClassTree made, Void nothing) {
            callOf(trees.getElement(getCurrentPath()));
            made(made);
            return super.visitNewClass(made, nothing);
        }

        @Override
        public Void visitNewArray(NewArrayTree made, Void nothing) {
            made(made);
            return super.visitNewArray(made, nothing);
        }

        private void made(Tree made) {
            Element maker = around();
            boolean field = maker.getKind() == ElementKind.FIELD && !maker.getModifiers().contains(Modifier.STATIC);
            madeWell.put(made + ", " + at(made), field || maker.getKind() == ElementKind.CONSTRUCTOR);
        }

        @Override
        public Void visitForLoop(ForLoopTree loop, Void nothing) {
            loopEnds.put(at(loop), loop.getInitializer().size() == 1 && loop.getUpdate().size() == 1
                && loop.getInitializer().get(0) instanceof VariableTree && countsToBound(loop));
            return super.visitForLoop(loop, nothing);
        }

        private static boolean countsToBound(ForLoopTree loop) {
            String counter = ((VariableTree) loop.getInitializer().get(0)).getName().toString();
            String step = loop.getUpdate().get(0).getExpression().toString();
            boolean up = step.equals(counter + "++");
            boolean down = step.equals(counter + "--");
            return (up || down) && isBounded(loop.getCondition(), counter, up)
                && !changes(loop.getStatement(), counter);
        }

        /** One part of the condition, of those joined by &&, is the counter against a bound. */
        private static boolean isBounded(ExpressionTree condition, String counter, boolean up) {
            if (condition instanceof ParenthesizedTree inside) {
                return isBounded(inside.getExpression(), counter, up);
            }
            if (!(condition instanceof BinaryTree parts)) {
                return false;
            }
            switch (parts.getKind()) {
                case CONDITIONAL_AND:
                    return isBounded(parts.getLeftOperand(), counter, up)
                        || isBounded(parts.getRightOperand(), counter, up);
                case LESS_THAN:
                case LESS_THAN_EQUAL:
                    return up && parts.getLeftOperand().toString().equals(counter);
                case GREATER_THAN_EQUAL:
                case GREATER_THAN:
                    return !up && parts.getLeftOperand().toString().equals(counter);
                default:
                    return false;
            }
        }

        private static boolean changes(Tree body, String counter) {
            boolean[] changed = {false};
            new TreeScanner<Void, Void>() {
                private void target(ExpressionTree target) {
                    changed[0] |= target instanceof IdentifierTree name && name.getName().contentEquals(counter);
                }

                @Override
                public Void visitAssignment(AssignmentTree tree, Void nothing) {
                    target(tree.getVariable());
                    return super.visitAssignment(tree, nothing);
                }

                @Override
                public Void visitCompoundAssignment(CompoundAssignmentTree tree, Void nothing) {
                    target(tree.getVariable());
                    return super.visitCompoundAssignment(tree, nothing);
                }

                @Override
                public Void visitUnary(UnaryTree tree, Void nothing) {
                    target(tree.getKind() == Tree.Kind.LOGICAL_COMPLEMENT ? null : tree.getExpression());
                    return super.visitUnary(tree, nothing);
                }
            }.scan(body, null);
            return changed[0];
        }

        void depths() {
            int deepest = 0;
            for (Element method : List.copyOf(calls.keySet())) {
                int deep = depthOf(method, new HashSet<>());
                Check.holds(method + ": " + deep + " calls deep", deep <= DEEPEST);
                deepest = Math.max(deepest, deep);
            }
            Check.holds("calls are seen at all: " + deepest, deepest > 4);
        }

        /** How many calls stand open at most, this one among them. */
        private int depthOf(Element method, Set<Element> open) {
            if (!calls.containsKey(method)) {
                return 0;
            }
            if (!open.add(method)) {
                Check.holds("no recursion: " + method, false);
                return 0;
            }
            if (!depth.containsKey(method)) {
                int deepest = 0;
                for (Element callee : calls.get(method)) {
                    deepest = Math.max(deepest, depthOf(callee, open));
                }
                depth.put(method, deepest + 1);
            }
            open.remove(method);
            return depth.get(method);
        }

        void sizes() {
            lines.forEach((method, many) -> Check.holds(method + ": " + many + " lines", many <= LONGEST));
            parameters.forEach((method, many) -> Check.holds(method + ": " + many + " parameters", many <= 7));
        }

        void makers() {
            madeWell.forEach((made, well) -> Check.holds("made in a constructor: " + made, well));
        }

        void loops() {
            loopEnds.forEach((loop, ends) -> Check.holds("a counter against a bound: " + loop, ends));
        }
    }

    /** Ten LAID, ten OPEN: there are no more rows of MOVES than hers. */
    private static ShipFromItself dearestShip() {
        ShipFromItself x = new ShipFromItself();
        Check.write(x, "S099" + "P11-01".repeat(10));
        x.ship();
        for (int place = 0; place < 10; place++) {
            x.take(place);
        }
        return x;
    }

    private static long callEach(ShipFromItself x) {
        long sum = x.write(1, 0) + x.wipe() + x.fault() + x.ship() + x.place(0, 2) + x.timber(0, 2) + x.leak();
        sum += x.take(0) + x.put(0, 0) + x.take(1) + x.move(0, 1) + x.move(1, 0) + x.watch() + x.back();
        sum += x.floats() + x.harm(0) + x.may(0, 0) + x.best(2) + x.bestAt(2, 1) + x.port(9) + x.portAt(9, 1);
        sum += x.storm(5, 50, true) + x.share(0, false) + x.log(2, 3) + x.keep(0) + x.again(0) + x.count(5);
        return sum + x.take(-1) + x.put(11, 0) + x.log(9, 9) + x.storm(-1, 0, true);
    }

    private static void callsMakeNothing() {
        com.sun.management.ThreadMXBean threads =
            (com.sun.management.ThreadMXBean) ManagementFactory.getThreadMXBean();
        ShipFromItself x = dearestShip();
        long sum = 0;
        long least = Long.MAX_VALUE;
        for (int round = 0; round < 10; round++) {
            long before = threads.getCurrentThreadAllocatedBytes();
            sum += callEach(x);
            least = Math.min(least, threads.getCurrentThreadAllocatedBytes() - before);
        }
        Check.holds("called", sum != 0);
        Check.due("bytes that calls make", least, 0);
    }

    private static void dearestCalls() {
        ShipFromItself x = dearestShip();
        // Behind the 8 calls that wrote THE TEXT, the one that made it THE SHIP, and the 10 that took TIMBERS.
        for (int call = 19; call < 512; call++) {
            switch (call % 4) {
                case 0: Check.due("log(3, 127)", x.log(3, 127), 10 * 9 * 8 * 6); break;
                case 1: Check.due("port(99)", x.port(99), ShipFromItself.NONE); break;
                case 2: Check.due("bestAt(2, 1)", x.bestAt(2, 1), 11); break;
                default: Check.due("portAt(12, 1)", x.portAt(12, 1), ShipFromItself.NONE);
            }
        }
    }
}
