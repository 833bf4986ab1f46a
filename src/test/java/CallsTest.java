import com.sun.source.tree.ClassTree;
import com.sun.source.tree.CompilationUnitTree;
import com.sun.source.tree.MethodInvocationTree;
import com.sun.source.tree.MethodTree;
import com.sun.source.tree.NewClassTree;
import com.sun.source.util.JavacTask;
import com.sun.source.util.TreePathScanner;
import com.sun.source.util.Trees;
import java.nio.file.Path;
import java.util.HashSet;
import java.util.LinkedHashMap;
import java.util.List;
import java.util.Map;
import java.util.Set;
import java.util.TreeSet;
import javax.lang.model.element.Element;
import javax.lang.model.element.Modifier;
import javax.tools.JavaCompiler;
import javax.tools.StandardJavaFileManager;
import javax.tools.ToolProvider;

/** Who calls whom in the program: how deep calls go, which library they use, where they recur. */
public final class CallsTest {
    private static final int DEEPEST = 8;
    private static final Set<String> LIBRARY = Set.of("length", "charAt", "indexOf", "bitCount", "min", "max",
        "arraycopy");
    private static final Set<String> RECUR = Set.of("isWonWithin", "winsBehind", "winsAt");

    private final Map<Element, Set<Element>> calls = new LinkedHashMap<>();
    private final Set<String> outside = new TreeSet<>();

    public static void main(String[] args) throws Exception {
        CallsTest test = new CallsTest();
        test.read(Path.of(args[0]));
        Talk.due("methods found", test.calls.size() > 100, true);
        for (String name : test.outside) {
            Talk.due("library call " + name, LIBRARY.contains(name), true);
        }
        Set<String> recurring = new TreeSet<>();
        for (Element method : test.calls.keySet()) {
            if (method.getModifiers().contains(Modifier.PUBLIC)) {
                int deep = test.deepest(method, new HashSet<>());
                Talk.due("calls deep from " + method + ": " + deep, deep <= DEEPEST, true);
            }
            if (test.reaches(method, method, new HashSet<>())) {
                recurring.add("" + method.getSimpleName());
                Talk.due("private, as it recurs: " + method, method.getModifiers().contains(Modifier.PRIVATE), true);
            }
        }
        Talk.due("recursion " + recurring, recurring.equals(RECUR), true);
        Talk.finish("CallsTest");
    }

    private void read(Path source) throws Exception {
        JavaCompiler compiler = ToolProvider.getSystemJavaCompiler();
        StandardJavaFileManager files = compiler.getStandardFileManager(null, null, null);
        JavacTask task = (JavacTask) compiler.getTask(null, files, null, List.of("-proc:none"), null,
            files.getJavaFileObjects(source));
        Iterable<? extends CompilationUnitTree> units = task.parse();
        task.analyze();
        Trees trees = Trees.instance(task);
        for (CompilationUnitTree unit : units) {
            new Scanner(trees).scan(unit, null);
        }
        calls.values().forEach(called -> called.removeIf(this::noteIfOutside));
    }

    private boolean noteIfOutside(Element method) {
        boolean own = calls.containsKey(method);
        if (!own && !"<init>".contentEquals(method.getSimpleName())) {
            outside.add("" + method.getSimpleName());
        }
        return !own;
    }

    /** How many calls stand open at once, one that recurs being counted once. */
    private int deepest(Element method, Set<Element> open) {
        open.add(method);
        int deep = 0;
        for (Element next : calls.get(method)) {
            if (!open.contains(next)) {
                deep = Math.max(deep, deepest(next, open));
            }
        }
        open.remove(method);
        return deep + 1;
    }

    private boolean reaches(Element from, Element goal, Set<Element> seen) {
        for (Element next : calls.get(from)) {
            if (next == goal || seen.add(next) && reaches(next, goal, seen)) {
                return true;
            }
        }
        return false;
    }

    /** Notes each call at the method that it stands in. */
    private final class Scanner extends TreePathScanner<Void, Void> {
        private final Trees trees;
        private Element within;

        Scanner(Trees trees) {
            this.trees = trees;
        }

        @Override
        public Void visitClass(ClassTree node, Void none) {
            within = null;
            return super.visitClass(node, none);
        }

        @Override
        public Void visitMethod(MethodTree node, Void none) {
            within = trees.getElement(getCurrentPath());
            calls.put(within, new HashSet<>());
            super.visitMethod(node, none);
            within = null;
            return null;
        }

        @Override
        public Void visitMethodInvocation(MethodInvocationTree node, Void none) {
            note();
            return super.visitMethodInvocation(node, none);
        }

        @Override
        public Void visitNewClass(NewClassTree node, Void none) {
            note();
            return super.visitNewClass(node, none);
        }

        private void note() {
            if (within != null) {
                calls.get(within).add(trees.getElement(getCurrentPath()));
            }
        }
    }
}
