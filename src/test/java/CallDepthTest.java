import com.sun.source.tree.ClassTree;
import com.sun.source.tree.CompilationUnitTree;
import com.sun.source.tree.MethodInvocationTree;
import com.sun.source.tree.MethodTree;
import com.sun.source.tree.NewClassTree;
import com.sun.source.tree.VariableTree;
import com.sun.source.util.JavacTask;
import com.sun.source.util.TreePath;
import com.sun.source.util.TreePathScanner;
import com.sun.source.util.Trees;
import java.nio.file.Path;
import java.util.ArrayList;
import java.util.LinkedHashMap;
import java.util.List;
import java.util.Map;
import java.util.Set;
import java.util.TreeSet;
import javax.lang.model.element.Element;
import javax.tools.JavaCompiler;
import javax.tools.StandardJavaFileManager;
import javax.tools.ToolProvider;

/** Rules 8 and 11 of LANGUAGE.md: calls go at most eight deep, and only the reader of the law is recursive. */
public final class CallDepthTest {
    private static final Path SOURCE = Path.of("src/main/java/RopeToALake.java");
    private static final int MOST_DEEP = 8;
    private static final Set<String> RECURSIVE = Set.of("Reader.readCondition", "Reader.readAny");

    private final Map<String, Set<String>> calls = new LinkedHashMap<>();
    private final Set<String> recursive = new TreeSet<>();
    private List<String> deepest = List.of();

    public static void main(String[] args) throws Exception {
        CallDepthTest test = new CallDepthTest();
        test.findCalls();
        for (String from : new ArrayList<>(test.calls.keySet())) {
            test.follow(new ArrayList<>(List.of(from)));
        }
        boolean isWrong = test.deepest.size() > MOST_DEEP || test.deepest.size() < 2
                || !test.recursive.equals(new TreeSet<>(RECURSIVE));
        System.out.println("the deepest calls: " + String.join(" > ", test.deepest));
        System.out.println(isWrong ? "rule 8 or 11: recursive are " + test.recursive
                : "calls go at most " + MOST_DEEP + " deep");
        if (isWrong) {
            System.exit(1);
        }
    }

    private static String nameOf(Element method) {
        return method.getEnclosingElement().getSimpleName() + "." + method.getSimpleName();
    }

    private void findCalls() throws Exception {
        JavaCompiler compiler = ToolProvider.getSystemJavaCompiler();
        try (StandardJavaFileManager files = compiler.getStandardFileManager(null, null, null)) {
            JavacTask task = (JavacTask) compiler.getTask(null, files, null, List.of("--release", "17"), null,
                    files.getJavaFileObjects(SOURCE));
            Iterable<? extends CompilationUnitTree> units = task.parse();
            task.analyze();
            for (CompilationUnitTree unit : units) {
                new Scanner(Trees.instance(task)).scan(unit, null);
            }
        }
    }

    /** Each way of calls from a method on, without those that come back to one that stands open. */
    private void follow(List<String> open) {
        if (open.size() > deepest.size()) {
            deepest = new ArrayList<>(open);
        }
        for (String next : calls.getOrDefault(open.get(open.size() - 1), Set.of())) {
            int at = open.indexOf(next);
            if (at >= 0) {
                recursive.addAll(open.subList(at, open.size()));
            } else {
                open.add(next);
                follow(open);
                open.remove(open.size() - 1);
            }
        }
    }

    private final class Scanner extends TreePathScanner<Void, Void> {
        private final Trees trees;
        private String within = "";

        Scanner(Trees trees) {
            this.trees = trees;
        }

        @Override
        public Void visitMethod(MethodTree tree, Void none) {
            String outer = within;
            within = nameOf(trees.getElement(getCurrentPath()));
            super.visitMethod(tree, none);
            within = outer;
            return null;
        }

        /** What a field begins with is made by its class's constructor. */
        @Override
        public Void visitVariable(VariableTree tree, Void none) {
            String outer = within;
            TreePath parent = getCurrentPath().getParentPath();
            if (parent.getLeaf() instanceof ClassTree) {
                within = trees.getElement(parent).getSimpleName() + ".<init>";
            }
            super.visitVariable(tree, none);
            within = outer;
            return null;
        }

        @Override
        public Void visitMethodInvocation(MethodInvocationTree tree, Void none) {
            note(trees.getElement(getCurrentPath()));
            return super.visitMethodInvocation(tree, none);
        }

        @Override
        public Void visitNewClass(NewClassTree tree, Void none) {
            note(trees.getElement(getCurrentPath()));
            return super.visitNewClass(tree, none);
        }

        private void note(Element called) {
            if (called != null && !nameOf(called).equals("Object.<init>")) {
                calls.computeIfAbsent(within, k -> new TreeSet<>()).add(nameOf(called));
            }
        }
    }
}
