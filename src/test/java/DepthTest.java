import com.sun.source.tree.CompilationUnitTree;
import com.sun.source.tree.MethodInvocationTree;
import com.sun.source.tree.MethodTree;
import com.sun.source.util.JavacTask;
import com.sun.source.util.TreePathScanner;
import com.sun.source.util.Trees;
import java.io.IOException;
import java.nio.file.Path;
import java.util.ArrayList;
import java.util.HashMap;
import java.util.HashSet;
import java.util.LinkedHashMap;
import java.util.List;
import java.util.Map;
import java.util.Set;
import java.util.TreeSet;
import javax.lang.model.element.Element;
import javax.tools.JavaCompiler;
import javax.tools.StandardJavaFileManager;
import javax.tools.ToolProvider;

/** LANGUAGE.md, 8 and 11: which methods call themselves again, and how deep the other calls go. */
public final class DepthTest {
    private static final Check C = new Check("DepthTest");
    private static final Path SOURCE = Path.of("src/main/java/PastOnce.java");
    // Each has a limit of its own: the DISHES, what is open in a law, the KINDS.
    private static final Set<String> RECURSIONS = Set.of("[worthFrom, worthIfThere]", "[readOperand, readTerm]", "[own, run, work]");

    private final Map<Element, Set<Element>> calls = new LinkedHashMap<>();
    private final Map<Element, Set<Element>> reached = new HashMap<>();
    private final Map<Element, Integer> depths = new HashMap<>();

    public static void main(String[] args) throws IOException {
        DepthTest t = new DepthTest();
        t.read();
        C.holds("there are calls", t.calls.size() > 100);
        for (Element method : List.copyOf(t.calls.keySet())) {
            Set<Element> again = t.recursionOf(method);
            if (again.size() > 1 || t.calls.get(method).contains(method)) {
                C.holds("a recursion of " + names(again), RECURSIONS.contains(names(again)));
            }
            C.holds(method + " goes " + t.depthOf(method) + " deep", t.depthOf(method) <= 8);
        }
        C.finish();
    }

    private void read() throws IOException {
        JavaCompiler compiler = ToolProvider.getSystemJavaCompiler();
        try (StandardJavaFileManager files = compiler.getStandardFileManager(null, null, null)) {
            JavacTask task = (JavacTask) compiler.getTask(null, files, null, List.of("-proc:none"), null, files.getJavaFileObjects(SOURCE));
            List<CompilationUnitTree> units = new ArrayList<>();
            task.parse().forEach(units::add);
            task.analyze();
            Trees trees = Trees.instance(task);
            units.forEach(unit -> new Calls(trees).scan(unit, null));
        }
    }

    private final class Calls extends TreePathScanner<Void, Void> {
        private final Trees trees;
        private Element method = null;

        Calls(Trees trees) {
            this.trees = trees;
        }

        @Override
        public Void visitMethod(MethodTree tree, Void none) {
            method = trees.getElement(getCurrentPath());
            calls.putIfAbsent(method, new HashSet<>());
            return super.visitMethod(tree, none);
        }

        @Override
        public Void visitMethodInvocation(MethodInvocationTree tree, Void none) {
            Element called = trees.getElement(getCurrentPath());
            if (method != null && !called.getSimpleName().contentEquals("<init>")) {
                calls.get(method).add(called);
            }
            return super.visitMethodInvocation(tree, none);
        }
    }

    private Set<Element> called(Element method) {
        return calls.getOrDefault(method, Set.of());
    }

    private Set<Element> reachedFrom(Element method) {
        if (!reached.containsKey(method)) {
            Set<Element> all = new HashSet<>();
            List<Element> open = new ArrayList<>(called(method));
            while (!open.isEmpty()) {
                Element next = open.remove(open.size() - 1);
                if (all.add(next)) {
                    open.addAll(called(next));
                }
            }
            reached.put(method, all);
        }
        return reached.get(method);
    }

    /** The method and those that call one another with it. */
    private Set<Element> recursionOf(Element method) {
        Set<Element> all = new HashSet<>(Set.of(method));
        for (Element other : reachedFrom(method)) {
            if (reachedFrom(other).contains(method)) {
                all.add(other);
            }
        }
        return all;
    }

    /** The most calls that stand open from a method on, each method of a recursion once, the library's own too. */
    private int depthOf(Element method) {
        if (!depths.containsKey(method)) {
            Set<Element> again = recursionOf(method);
            int below = 0;
            for (Element one : again) {
                for (Element next : called(one)) {
                    below = again.contains(next) ? below : Math.max(below, depthOf(next));
                }
            }
            depths.put(method, below + again.size());
        }
        return depths.get(method);
    }

    private static String names(Set<Element> methods) {
        Set<String> names = new TreeSet<>();
        methods.forEach(m -> names.add(m.getSimpleName().toString()));
        return names.toString();
    }
}
