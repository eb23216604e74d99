import com.sun.source.tree.ClassTree;
import com.sun.source.tree.CompilationUnitTree;
import com.sun.source.tree.MethodInvocationTree;
import com.sun.source.tree.MethodTree;
import com.sun.source.tree.NewClassTree;
import com.sun.source.util.JavacTask;
import com.sun.source.util.TreePath;
import com.sun.source.util.TreePathScanner;
import com.sun.source.util.Trees;
import java.io.IOException;
import java.nio.file.Path;
import java.util.ArrayDeque;
import java.util.ArrayList;
import java.util.Deque;
import java.util.LinkedHashMap;
import java.util.LinkedHashSet;
import java.util.List;
import java.util.Map;
import java.util.Set;
import javax.lang.model.element.Element;
import javax.tools.JavaCompiler;
import javax.tools.StandardJavaFileManager;
import javax.tools.ToolProvider;

/** Rules 8 and 11 of LANGUAGE.md: who calls whom, how deep; the argument is the path of the source. */
public final class DepthTest {
    private static final int DEEPEST = 8;

    private final Map<String, Set<String>> callsOf = new LinkedHashMap<>();
    private final Check check = new Check();

    public static void main(String[] args) throws IOException {
        DepthTest test = new DepthTest();
        test.read(Path.of(args[0]));
        test.check.due("digest() is among what was read", test.callsOf.containsKey("TurningTown.digest()") ? 1 : 0, 1);
        for (String method : test.callsOf.keySet()) {
            List<String> way = test.deepest(method, new ArrayDeque<>());
            test.check.due("no more than " + DEEPEST + " deep: " + way, Math.max(way.size(), DEEPEST), DEEPEST);
        }
        test.check.end();
    }

    private void read(Path source) throws IOException {
        JavaCompiler compiler = ToolProvider.getSystemJavaCompiler();
        try (StandardJavaFileManager files = compiler.getStandardFileManager(null, null, null)) {
            JavacTask task = (JavacTask) compiler.getTask(null, files, null, List.of("-proc:none"), null,
                files.getJavaFileObjects(source));
            Iterable<? extends CompilationUnitTree> units = task.parse();
            task.analyze();
            new Reader(Trees.instance(task)).scan(units, null);
        }
    }

    /** The longest chain of calls that begins with a method; one that comes to itself again is told, and ends there. */
    private List<String> deepest(String method, Deque<String> open) {
        if (open.contains(method)) {
            check.due("no recursion: " + open + " to " + method, 1, 0);
            return List.of();
        }
        open.addLast(method);
        List<String> longest = List.of();
        for (String called : callsOf.getOrDefault(method, Set.of())) {
            List<String> way = deepest(called, open);
            longest = way.size() > longest.size() ? way : longest;
        }
        open.removeLast();
        List<String> whole = new ArrayList<>(List.of(method));
        whole.addAll(longest);
        return whole;
    }

    /** What stands outside of methods (a field's first value) is done by the constructor. */
    private final class Reader extends TreePathScanner<Void, String> {
        private final Trees trees;

        Reader(Trees trees) {
            this.trees = trees;
        }

        @Override
        public Void visitClass(ClassTree node, String caller) {
            return super.visitClass(node, trees.getElement(getCurrentPath()) + " made");
        }

        @Override
        public Void visitMethod(MethodTree node, String caller) {
            return super.visitMethod(node, nameOf(trees.getElement(getCurrentPath())));
        }

        @Override
        public Void visitMethodInvocation(MethodInvocationTree node, String caller) {
            note(caller, trees.getElement(new TreePath(getCurrentPath(), node.getMethodSelect())));
            return super.visitMethodInvocation(node, caller);
        }

        @Override
        public Void visitNewClass(NewClassTree node, String caller) {
            note(caller, trees.getElement(getCurrentPath()));
            return super.visitNewClass(node, caller);
        }

        private String nameOf(Element method) {
            String owner = method.getEnclosingElement().toString();
            return method.getSimpleName().contentEquals("<init>") ? owner + " made" : owner + "." + method;
        }

        private void note(String caller, Element called) {
            callsOf.computeIfAbsent(caller, key -> new LinkedHashSet<>()).add(nameOf(called));
        }
    }
}
