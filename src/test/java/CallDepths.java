import com.sun.source.tree.ClassTree;
import com.sun.source.tree.CompilationUnitTree;
import com.sun.source.tree.MethodInvocationTree;
import com.sun.source.tree.MethodTree;
import com.sun.source.tree.NewClassTree;
import com.sun.source.util.JavacTask;
import com.sun.source.util.TreePathScanner;
import com.sun.source.util.Trees;
import java.io.IOException;
import java.nio.file.Path;
import java.util.ArrayList;
import java.util.LinkedHashMap;
import java.util.LinkedHashSet;
import java.util.List;
import java.util.Map;
import java.util.Set;
import javax.lang.model.element.Element;
import javax.tools.JavaCompiler;
import javax.tools.StandardJavaFileManager;
import javax.tools.ToolProvider;

/** Which methods of the source call which: rule 11 of LANGUAGE.md. */
final class CallDepths {
    private static final int DEEPEST = 8;

    private final Map<Element, Set<Element>> calls = new LinkedHashMap<>();
    private final List<Element> open = new ArrayList<>();

    private CallDepths() {
    }

    /** Calls that are no recursion go at most eight deep, the call of the face counted. */
    static void check(Path source) throws IOException {
        CallDepths depths = new CallDepths();
        depths.read(source);
        for (Element method : depths.calls.keySet()) {
            depths.walk(method);
        }
        Check.due("methods were found", true, depths.calls.size() > 24);
    }

    private void read(Path source) throws IOException {
        JavaCompiler compiler = ToolProvider.getSystemJavaCompiler();
        try (StandardJavaFileManager files = compiler.getStandardFileManager(null, null, null)) {
            JavacTask task = (JavacTask) compiler.getTask(null, files, null, null, null,
                files.getJavaFileObjects(source));
            Iterable<? extends CompilationUnitTree> units = task.parse();
            task.analyze();
            Trees trees = Trees.instance(task);
            for (CompilationUnitTree unit : units) {
                new Scanner(trees).scan(unit, null);
            }
        }
    }

    private void walk(Element method) {
        if (open.contains(method)) {
            return;
        }
        open.add(method);
        Check.due("so deep go " + open, true, open.size() <= DEEPEST);
        for (Element called : calls.getOrDefault(method, Set.of())) {
            walk(called);
        }
        open.remove(open.size() - 1);
    }

    private final class Scanner extends TreePathScanner<Void, Void> {
        private final Trees trees;
        private Element within;

        Scanner(Trees trees) {
            this.trees = trees;
        }

        @Override
        public Void visitClass(ClassTree tree, Void unused) {
            Element before = within;
            within = null;
            super.visitClass(tree, unused);
            within = before;
            return null;
        }

        @Override
        public Void visitMethod(MethodTree tree, Void unused) {
            within = trees.getElement(getCurrentPath());
            calls.put(within, new LinkedHashSet<>());
            super.visitMethod(tree, unused);
            within = null;
            return null;
        }

        @Override
        public Void visitMethodInvocation(MethodInvocationTree tree, Void unused) {
            addCall();
            return super.visitMethodInvocation(tree, unused);
        }

        @Override
        public Void visitNewClass(NewClassTree tree, Void unused) {
            addCall();
            return super.visitNewClass(tree, unused);
        }

        /** Calls of the library are kept as well, but lead to no further ones. */
        private void addCall() {
            Element called = trees.getElement(getCurrentPath());
            if (within != null && called != null && isOwn(called)) {
                calls.get(within).add(called);
            }
        }

        private boolean isOwn(Element called) {
            return called.getEnclosingElement().toString().startsWith("TurnLine");
        }
    }
}
