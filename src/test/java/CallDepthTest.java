import com.sun.source.tree.CompilationUnitTree;
import com.sun.source.tree.MethodInvocationTree;
import com.sun.source.tree.MethodTree;
import com.sun.source.util.JavacTask;
import com.sun.source.util.TreePathScanner;
import com.sun.source.util.Trees;
import java.io.File;
import java.util.ArrayList;
import java.util.HashMap;
import java.util.LinkedHashMap;
import java.util.LinkedHashSet;
import java.util.List;
import java.util.Map;
import java.util.Set;
import javax.lang.model.element.Element;
import javax.tools.JavaCompiler;
import javax.tools.JavaFileObject;
import javax.tools.StandardJavaFileManager;
import javax.tools.ToolProvider;

/** LANGUAGE.md, rules 8 and 11: nothing here calls itself, and calls go at most eight deep. */
public final class CallDepthTest {
    private static final int MOST_DEEP = 8;
    private static final Due due = new Due("CallDepthTest");
    /** Methods of the class by what they call, the library's methods among these. */
    private static final Map<String, Set<String>> calls = new LinkedHashMap<>();
    private static final Map<String, Integer> depths = new HashMap<>();

    public static void main(String[] args) throws Exception {
        readCalls(new File("src/main/java/ParcelBall.java"));
        due.holds("methods were seen: " + calls.size(), calls.size() > 100);
        for (String method : new ArrayList<>(calls.keySet())) {
            int depth = depthOf(method, List.of());
            due.holds(method + " goes " + depth + " deep", depth <= MOST_DEEP);
        }
        due.is("the deepest that was seen in text()", depths.getOrDefault("ParcelBall.text()", 0), MOST_DEEP);
        due.end();
    }

    /** A call of the library's counts, too: one more than the calls that it stands in. */
    private static int depthOf(String method, List<String> open) {
        if (depths.containsKey(method)) {
            return depths.get(method);
        }
        if (open.contains(method)) {
            due.holds(method + " does not come back to itself by " + open, false);
            return 0;
        }
        List<String> now = new ArrayList<>(open);
        now.add(method);
        int deepest = 0;
        for (String called : calls.getOrDefault(method, Set.of())) {
            deepest = Math.max(deepest, depthOf(called, now));
        }
        depths.put(method, 1 + deepest);
        return 1 + deepest;
    }

    private static void readCalls(File file) throws Exception {
        JavaCompiler compiler = ToolProvider.getSystemJavaCompiler();
        try (StandardJavaFileManager files = compiler.getStandardFileManager(null, null, null)) {
            Iterable<? extends JavaFileObject> sources = files.getJavaFileObjects(file);
            JavacTask task = (JavacTask) compiler.getTask(null, files, null, List.of("-proc:none"), null, sources);
            Iterable<? extends CompilationUnitTree> units = task.parse();
            task.analyze();
            for (CompilationUnitTree unit : units) {
                new Scanner(Trees.instance(task)).scan(unit, null);
            }
        }
    }

    private static final class Scanner extends TreePathScanner<Void, String> {
        private final Trees trees;

        Scanner(Trees trees) {
            this.trees = trees;
        }

        @Override
        public Void visitMethod(MethodTree tree, String outside) {
            String method = nameOf(trees.getElement(getCurrentPath()));
            calls.put(method, new LinkedHashSet<>());
            return super.visitMethod(tree, method);
        }

        @Override
        public Void visitMethodInvocation(MethodInvocationTree tree, String method) {
            if (method != null) {
                calls.get(method).add(nameOf(trees.getElement(getCurrentPath())));
            }
            return super.visitMethodInvocation(tree, method);
        }

        private static String nameOf(Element method) {
            return method.getEnclosingElement() + "." + method;
        }
    }
}
