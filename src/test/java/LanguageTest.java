import com.sun.source.tree.ClassTree;
import com.sun.source.tree.CompilationUnitTree;
import com.sun.source.tree.DoWhileLoopTree;
import com.sun.source.tree.ExpressionTree;
import com.sun.source.tree.ForLoopTree;
import com.sun.source.tree.MethodInvocationTree;
import com.sun.source.tree.MethodTree;
import com.sun.source.tree.NewArrayTree;
import com.sun.source.tree.NewClassTree;
import com.sun.source.tree.Tree;
import com.sun.source.tree.Tree.Kind;
import com.sun.source.tree.VariableTree;
import com.sun.source.tree.WhileLoopTree;
import com.sun.source.util.JavacTask;
import com.sun.source.util.TreePath;
import com.sun.source.util.TreePathScanner;
import com.sun.source.util.Trees;
import java.io.File;
import java.io.IOException;
import java.util.EnumSet;
import java.util.HashMap;
import java.util.HashSet;
import java.util.List;
import java.util.Map;
import java.util.Random;
import java.util.Set;
import java.util.TreeSet;
import javax.lang.model.element.Element;
import javax.lang.model.element.ElementKind;
import javax.tools.JavaCompiler;
import javax.tools.StandardJavaFileManager;
import javax.tools.ToolProvider;

/**
 * The rules of LANGUAGE.md that can be seen in the program's text or in what it does. It is held to
 * less than the rules allow where it needs no more: it divides nothing, knows of no text, and makes
 * objects in constructors alone, so that no later call can fill the room.
 */
public final class LanguageTest {
    private static final String PROGRAM = "src/main/java/EventGraphText.java";
    private static final int MOST_LINES_OF_A_METHOD = 60;
    private static final int DEEPEST_CALLS = 8;
    private static final int MOST_FIELDS_AND_ELEMENTS = 7_300_000 / 512;
    private static final int OBJECTS = 200;
    private static final int CALLS_OF_AN_OBJECT = 2000;
    private static final List<String> NAMES = List.of("insert", "delete", "length", "at", "send", "deliver", "discard",
            "hear", "believed", "octets", "octet", "events", "heads", "head", "ancestor", "critical", "replayed",
            "moves", "operation");
    private static final Set<String> LIBRARY = Set.of("java.lang.Long.bitCount(long)", "java.lang.Object.Object()");
    private static final Set<Kind> FORBIDDEN = EnumSet.of(
            Kind.THROW, Kind.TRY, Kind.CATCH, Kind.SYNCHRONIZED, Kind.ASSERT, Kind.LAMBDA_EXPRESSION,
            Kind.MEMBER_REFERENCE, Kind.DIVIDE, Kind.DIVIDE_ASSIGNMENT, Kind.REMAINDER, Kind.REMAINDER_ASSIGNMENT,
            Kind.STRING_LITERAL, Kind.TYPE_CAST, Kind.INSTANCE_OF, Kind.ERRONEOUS);

    private final Checks checks = new Checks("LanguageTest");
    private final Map<Element, Set<Element>> calls = new HashMap<>();

    public static void main(String[] args) throws IOException {
        LanguageTest test = new LanguageTest();
        test.text();
        test.depth();
        test.room();
        for (int seed = 0; seed < OBJECTS; seed++) {
            test.anyCalls(new Random(seed));
        }
        test.checks.end();
    }

    private void text() throws IOException {
        JavaCompiler compiler = ToolProvider.getSystemJavaCompiler();
        try (StandardJavaFileManager files = compiler.getStandardFileManager(null, null, null)) {
            JavacTask task = (JavacTask) compiler.getTask(null, files, null, List.of("-proc:none"), null,
                    files.getJavaFileObjects(new File(PROGRAM)));
            CompilationUnitTree unit = task.parse().iterator().next();
            task.analyze();
            checks.due("no package", unit.getPackageName() == null, true);
            checks.due("imports", unit.getImports().size(), 0);
            checks.due("classes of the file", unit.getTypeDecls().size(), 1);
            new Reader(Trees.instance(task), unit).scan(unit, null);
        }
        checks.due("rules 8 and 11: calls are seen", calls.size() > 50, true);
    }

    private void depth() {
        int deepest = 0;
        for (Element method : calls.keySet()) {
            deepest = Math.max(deepest, depthOf(method, new HashSet<>()));
        }
        checks.due("rule 11: calls go " + deepest + " deep", deepest <= DEEPEST_CALLS, true);
    }

    private int depthOf(Element method, Set<Element> open) {
        if (!open.add(method)) {
            checks.due("rule 8: a call of itself: " + method, true, false);
            return 0;
        }
        int deepest = 0;
        for (Element called : calls.getOrDefault(method, Set.of())) {
            deepest = Math.max(deepest, depthOf(called, open));
        }
        open.remove(method);
        return deepest + 1;
    }

    /** Even an object for each call of a run would fit in the room of that run. */
    private void room() {
        Room room = new Room();
        room.enter(new EventGraphText());
        checks.due("rule 12: " + room.size() + " fields and elements", room.size() < MOST_FIELDS_AND_ELEMENTS, true);
    }

    /** Any calls, also behind the 512th: they end without an exception, and answer the same on another object. */
    private void anyCalls(Random random) {
        EventGraphText x = new EventGraphText();
        EventGraphText again = new EventGraphText();
        for (int k = 0; k < CALLS_OF_AN_OBJECT; k++) {
            String name = NAMES.get(random.nextInt(NAMES.size()));
            int third = random.nextBoolean() ? 'a' : anyInt(random);
            Call call = new Call(name, anyInt(random), anyInt(random), third, anyInt(random));
            checks.due("rules 7 and 13: " + call, call.ask(x), call.ask(again));
        }
    }

    private static int anyInt(Random random) {
        return switch (random.nextInt(8)) {
            case 0 -> Run.FAR[random.nextInt(Run.FAR.length)];
            case 1 -> random.nextInt();
            case 2 -> random.nextInt(130) - 1;
            default -> random.nextInt(3);
        };
    }

    /** Goes through the program's text and notes which method calls which. */
    private final class Reader extends TreePathScanner<Void, Void> {
        private final Trees trees;
        private final CompilationUnitTree unit;
        private final Set<String> types = new TreeSet<>(Set.of("int", "long", "boolean"));

        Reader(Trees trees, CompilationUnitTree unit) {
            this.trees = trees;
            this.unit = unit;
            ClassTree program = (ClassTree) unit.getTypeDecls().get(0);
            for (Tree member : program.getMembers()) {
                if (member instanceof ClassTree inside) {
                    types.add(inside.getSimpleName().toString());
                }
            }
        }

        @Override
        public Void scan(Tree tree, Void none) {
            if (tree != null) {
                checks.due("rules 2 to 7: " + tree.getKind() + " in line " + line(tree),
                        FORBIDDEN.contains(tree.getKind()), false);
            }
            return super.scan(tree, none);
        }

        @Override
        public Void visitClass(ClassTree tree, Void none) {
            Kind around = getCurrentPath().getParentPath().getLeaf().getKind();
            checks.due("rule 2: no local or anonymous class in line " + line(tree),
                    around == Kind.COMPILATION_UNIT || around == Kind.CLASS, true);
            return super.visitClass(tree, none);
        }

        @Override
        public Void visitVariable(VariableTree tree, Void none) {
            String type = tree.getType().toString();
            String plain = type.endsWith("[]") ? type.substring(0, type.length() - 2) : type;
            checks.due("rule 3: type " + type + " in line " + line(tree), types.contains(plain), true);
            return super.visitVariable(tree, none);
        }

        @Override
        public Void visitMethod(MethodTree tree, Void none) {
            long end = trees.getSourcePositions().getEndPosition(unit, tree);
            if (end >= 0) {
                long lines = unit.getLineMap().getLineNumber(end) - line(tree) + 1;
                checks.due("rule 11: length of " + tree.getName(), lines <= MOST_LINES_OF_A_METHOD, true);
            }
            return super.visitMethod(tree, none);
        }

        @Override
        public Void visitMethodInvocation(MethodInvocationTree tree, Void none) {
            Element called = trees.getElement(getCurrentPath());
            String owner = called.getEnclosingElement().toString();
            if (owner.equals("EventGraphText") || owner.startsWith("EventGraphText.")) {
                noteCall(called);
            } else {
                String name = owner + "." + called;
                checks.due("rule 4: " + name + " in line " + line(tree), LIBRARY.contains(name), true);
            }
            return super.visitMethodInvocation(tree, none);
        }

        @Override
        public Void visitNewClass(NewClassTree tree, Void none) {
            dueInConstructor(tree);
            noteCall(trees.getElement(getCurrentPath()));
            return super.visitNewClass(tree, none);
        }

        @Override
        public Void visitNewArray(NewArrayTree tree, Void none) {
            dueInConstructor(tree);
            return super.visitNewArray(tree, none);
        }

        @Override
        public Void visitWhileLoop(WhileLoopTree tree, Void none) {
            dueEnd(tree, tree.getCondition());
            return super.visitWhileLoop(tree, none);
        }

        @Override
        public Void visitDoWhileLoop(DoWhileLoopTree tree, Void none) {
            dueEnd(tree, tree.getCondition());
            return super.visitDoWhileLoop(tree, none);
        }

        @Override
        public Void visitForLoop(ForLoopTree tree, Void none) {
            dueEnd(tree, tree.getCondition());
            return super.visitForLoop(tree, none);
        }

        /** A bound stands in the loop's own line; whether it is reached is left to the reader. */
        private void dueEnd(Tree loop, ExpressionTree condition) {
            String text = condition == null ? "" : condition.toString();
            checks.due("rule 9: a bound in line " + line(loop), text.matches(".*[<>].*"), true);
        }

        /** What stands in a field counts as the constructor's. */
        private void dueInConstructor(Tree tree) {
            Element around = methodAround();
            checks.due("rule 12: an object made in line " + line(tree),
                    around == null || around.getKind() == ElementKind.CONSTRUCTOR, true);
        }

        private void noteCall(Element called) {
            Element around = methodAround();
            if (around != null) {
                calls.computeIfAbsent(around, key -> new HashSet<>()).add(called);
            }
        }

        private Element methodAround() {
            for (TreePath path = getCurrentPath(); path != null; path = path.getParentPath()) {
                if (path.getLeaf().getKind() == Kind.METHOD) {
                    return trees.getElement(path);
                }
            }
            return null;
        }

        private long line(Tree tree) {
            long start = trees.getSourcePositions().getStartPosition(unit, tree);
            return unit.getLineMap().getLineNumber(Math.max(0, start));
        }
    }
}
