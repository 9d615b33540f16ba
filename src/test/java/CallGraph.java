import com.sun.source.tree.CompilationUnitTree;
import com.sun.source.tree.MethodInvocationTree;
import com.sun.source.tree.MethodTree;
import com.sun.source.tree.NewClassTree;
import com.sun.source.util.JavacTask;
import com.sun.source.util.TreePathScanner;
import com.sun.source.util.Trees;
import java.io.IOException;
import java.nio.file.Path;
import java.util.ArrayList;
import java.util.List;
import java.util.Map;
import java.util.Set;
import java.util.TreeMap;
import java.util.TreeSet;
import javax.lang.model.element.Element;
import javax.tools.JavaCompiler;
import javax.tools.StandardJavaFileManager;
import javax.tools.ToolProvider;

/** Which methods of a source file call which others of it. */
final class CallGraph {
    private final Map<String, Set<String>> calls = new TreeMap<>();

    static CallGraph of(Path file) throws IOException {
        CallGraph graph = new CallGraph();
        JavaCompiler compiler = ToolProvider.getSystemJavaCompiler();
        try (StandardJavaFileManager files = compiler.getStandardFileManager(null, null, null)) {
            JavacTask task = (JavacTask) compiler.getTask(null, files, null,
                    List.of("-proc:none"), null, files.getJavaFileObjects(file));
            Iterable<? extends CompilationUnitTree> units = task.parse();
            task.analyze();
            graph.new Reader(Trees.instance(task)).scan(units, null);
        }
        return graph;
    }

    int methods() {
        return calls.size();
    }

    /** The longest chain of calls. A recursion counts in it with each of its methods once. */
    List<String> deepest() {
        List<String> deepest = List.of();
        for (String method : calls.keySet()) {
            List<String> chain = deepestFrom(method, new ArrayList<>());
            deepest = chain.size() > deepest.size() ? chain : deepest;
        }
        return deepest;
    }

    private List<String> deepestFrom(String method, List<String> open) {
        open.add(method);
        List<String> deepest = List.copyOf(open);
        for (String called : calls.get(method)) {
            if (calls.containsKey(called) && !open.contains(called)) {
                List<String> chain = deepestFrom(called, open);
                deepest = chain.size() > deepest.size() ? chain : deepest;
            }
        }
        open.remove(method);
        return deepest;
    }

    private final class Reader extends TreePathScanner<Void, Void> {
        private final Trees trees;
        private Set<String> called = new TreeSet<>();

        Reader(Trees trees) {
            this.trees = trees;
        }

        @Override
        public Void visitMethod(MethodTree method, Void nothing) {
            Set<String> outside = called;
            called = new TreeSet<>();
            calls.put(nameHere(), called);
            super.visitMethod(method, nothing);
            called = outside;
            return null;
        }

        @Override
        public Void visitMethodInvocation(MethodInvocationTree call, Void nothing) {
            called.add(nameHere());
            return super.visitMethodInvocation(call, nothing);
        }

        @Override
        public Void visitNewClass(NewClassTree made, Void nothing) {
            called.add(nameHere());
            return super.visitNewClass(made, nothing);
        }

        private String nameHere() {
            Element method = trees.getElement(getCurrentPath());
            return method.getEnclosingElement() + "." + method;
        }
    }
}
