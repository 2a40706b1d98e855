import com.sun.source.tree.CompilationUnitTree;
import com.sun.source.tree.MethodInvocationTree;
import com.sun.source.tree.MethodTree;
import com.sun.source.tree.NewClassTree;
import com.sun.source.util.JavacTask;
import com.sun.source.util.TreePathScanner;
import com.sun.source.util.Trees;
import java.nio.file.Path;
import java.util.HashSet;
import java.util.LinkedHashMap;
import java.util.LinkedHashSet;
import java.util.Map;
import java.util.Set;
import javax.lang.model.element.Element;
import javax.lang.model.element.Modifier;
import javax.tools.JavaCompiler;
import javax.tools.StandardJavaFileManager;
import javax.tools.ToolProvider;

/**
 * LANGUAGE.md's rules 8 and 11: which methods call one another in a ring is known, and all other calls,
 * those of the library with them, go at most eight deep (a ring counts as one).
 */
public final class CallsTest {
    private static final Path SOURCE = Path.of("src/main/java/DustYards.java");
    private static final int DEEPEST = 8;
    private static final Set<String> READERS = Set.of("readEither", "readBoth", "readNot", "readCompared", "readSum",
            "readTerm", "readOne", "readNegated", "readBracket");

    private final Map<Element, Set<Element>> calls = new LinkedHashMap<>();
    private final Map<Element, Integer> depths = new LinkedHashMap<>();

    private CallsTest() {
    }

    public static void main(String[] args) throws Exception {
        CallsTest test = new CallsTest();
        test.read();
        test.rings();
        test.depth();
        Due.end();
    }

    private void read() throws Exception {
        JavaCompiler javac = ToolProvider.getSystemJavaCompiler();
        try (StandardJavaFileManager files = javac.getStandardFileManager(null, null, null)) {
            JavacTask task = (JavacTask) javac.getTask(null, files, null, null, null, files.getJavaFileObjects(SOURCE));
            Iterable<? extends CompilationUnitTree> units = task.parse();
            task.analyze();
            for (CompilationUnitTree unit : units) {
                new Reader(Trees.instance(task)).scan(unit, null);
            }
        }
        Due.is("methods were read", calls.size() > 100 ? 1 : 0, 1);
    }

    /** All that can be reached from a method by one call or more. */
    private Set<Element> reachedFrom(Element method) {
        Set<Element> reached = new HashSet<>(calls.getOrDefault(method, Set.of()));
        int before = -1;
        while (before < reached.size()) {
            before = reached.size();
            for (Element next : Set.copyOf(reached)) {
                reached.addAll(calls.getOrDefault(next, Set.of()));
            }
        }
        return reached;
    }

    private boolean inOneRing(Element a, Element b) {
        return reachedFrom(a).contains(b) && reachedFrom(b).contains(a);
    }

    private void rings() {
        for (Element method : calls.keySet()) {
            if (reachedFrom(method).contains(method)) {
                String name = method.getSimpleName().toString();
                boolean known = READERS.contains(name) || name.equals("layFrom");
                Due.is("rule 8: a ring through " + name, known ? 1 : 0, 1);
                Due.is("rule 8: private, and static where it calls itself alone: " + name, isOfRule8(method) ? 1 : 0, 1);
            }
        }
    }

    private boolean isOfRule8(Element method) {
        Set<Modifier> flags = method.getModifiers();
        boolean isAlone = ringOf(method).size() == 1;
        return flags.contains(Modifier.PRIVATE) && (!isAlone || flags.contains(Modifier.STATIC));
    }

    private void depth() {
        for (Element method : calls.keySet()) {
            int depth = depthOf(method);
            Due.is("rule 11: " + method + " goes " + depth + " deep", depth <= DEEPEST ? 1 : 0, 1);
        }
    }

    private int depthOf(Element method) {
        Integer known = depths.get(method);
        if (known != null) {
            return known;
        }
        int deepest = 0;
        for (Element in : ringOf(method)) {
            for (Element next : calls.getOrDefault(in, Set.of())) {
                if (!inOneRing(in, next)) {
                    deepest = Math.max(deepest, depthOf(next));
                }
            }
        }
        depths.put(method, deepest + 1);
        return deepest + 1;
    }

    private Set<Element> ringOf(Element method) {
        Set<Element> ring = new LinkedHashSet<>(Set.of(method));
        for (Element other : calls.keySet()) {
            if (inOneRing(method, other)) {
                ring.add(other);
            }
        }
        return ring;
    }

    private final class Reader extends TreePathScanner<Void, Void> {
        private final Trees trees;
        private Element method;

        Reader(Trees trees) {
            this.trees = trees;
        }

        @Override
        public Void visitMethod(MethodTree tree, Void v) {
            method = trees.getElement(getCurrentPath());
            calls.putIfAbsent(method, new LinkedHashSet<>());
            super.visitMethod(tree, v);
            method = null;
            return null;
        }

        @Override
        public Void visitMethodInvocation(MethodInvocationTree tree, Void v) {
            // What a constructor of Object does is no call of the program's.
            boolean isSuper = tree.getMethodSelect().toString().equals("super");
            if (method != null && !isSuper) {
                calls.get(method).add(trees.getElement(getCurrentPath()));
            }
            return super.visitMethodInvocation(tree, v);
        }

        @Override
        public Void visitNewClass(NewClassTree tree, Void v) {
            if (method != null) {
                calls.get(method).add(trees.getElement(getCurrentPath()));
            }
            return super.visitNewClass(tree, v);
        }
    }
}
