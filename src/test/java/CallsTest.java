import com.sun.source.tree.ClassTree;
import com.sun.source.tree.CompilationUnitTree;
import com.sun.source.tree.MethodInvocationTree;
import com.sun.source.tree.MethodTree;
import com.sun.source.tree.NewClassTree;
import com.sun.source.tree.Tree;
import com.sun.source.tree.VariableTree;
import com.sun.source.util.JavacTask;
import com.sun.source.util.TreePath;
import com.sun.source.util.TreePathScanner;
import com.sun.source.util.Trees;
import java.io.IOException;
import java.nio.file.Path;
import java.util.ArrayList;
import java.util.List;
import java.util.Map;
import java.util.TreeMap;
import java.util.TreeSet;
import javax.lang.model.element.Element;
import javax.lang.model.element.Modifier;
import javax.tools.JavaCompiler;
import javax.tools.StandardJavaFileManager;
import javax.tools.ToolProvider;

/**
 * What rule 11 of ../shared/LANGUAGE.md bounds and only the compiler can tell: how deep the calls go, and how many
 * parameters and fields there are. The program needs no recursion, so none is let through.
 */
public final class CallsTest {
    private static final Path PROGRAM = Path.of("src/main/java/ForgivenWork.java");
    private static final int DEEPEST = 8;
    private static final int MOST_PARAMETERS = 7;
    private static final int MOST_FIELDS = 20;

    // The methods of the program, each with those that it calls; a library's method calls nothing.
    private static final Map<String, TreeSet<String>> CALLED = new TreeMap<>();
    private static final Map<String, Integer> DEPTHS = new TreeMap<>();
    private static int wrong = 0;

    public static void main(String[] args) throws IOException {
        JavaCompiler compiler = ToolProvider.getSystemJavaCompiler();
        if (compiler == null) {
            System.out.println("CallsTest: this java has no compiler in it, so nothing was looked at");
            return;
        }
        read(compiler);
        check(CALLED.size() > 50, "the program was not read");
        String deepest = "";
        for (String method : CALLED.keySet()) {
            if (depth(method, new ArrayList<>()) > DEPTHS.getOrDefault(deepest, 0)) {
                deepest = method;
            }
        }
        check(DEPTHS.getOrDefault(deepest, 0) <= DEEPEST, "the calls go too deep");
        System.out.println("CallsTest: " + CALLED.size() + " methods, the deepest way is " + way(deepest));
        if (wrong != 0) {
            System.exit(1);
        }
    }

    private static void check(boolean holds, String what) {
        if (!holds) {
            wrong++;
            System.out.println("CallsTest: " + what);
        }
    }

    // ---- how deep

    /** How many methods stand open at once at most, from this one on; a library's method counts as one. */
    private static int depth(String method, List<String> open) {
        if (open.contains(method)) {
            check(false, "recursion: " + method);
            return 0;
        }
        if (!DEPTHS.containsKey(method)) {
            open.add(method);
            int within = 0;
            for (String next : CALLED.getOrDefault(method, new TreeSet<>())) {
                within = Math.max(within, depth(next, open));
            }
            open.remove(method);
            DEPTHS.put(method, within + 1);
        }
        return DEPTHS.get(method);
    }

    private static String way(String from) {
        StringBuilder way = new StringBuilder(from);
        String at = from;
        for (int left = DEPTHS.getOrDefault(from, 0); left > 1; left--) {
            for (String next : CALLED.getOrDefault(at, new TreeSet<>())) {
                if (DEPTHS.getOrDefault(next, 0) == left - 1) {
                    at = next;
                    break;
                }
            }
            way.append(" > ").append(at);
        }
        return way.toString();
    }

    // ---- reading

    private static void read(JavaCompiler compiler) throws IOException {
        try (StandardJavaFileManager files = compiler.getStandardFileManager(null, null, null)) {
            JavacTask task = (JavacTask) compiler.getTask(null, files, null, List.of("-proc:none"), null,
                files.getJavaFileObjects(PROGRAM));
            for (CompilationUnitTree unit : task.parse()) {
                task.analyze();
                new Reader(Trees.instance(task)).scan(unit, "");
            }
        }
    }

    /** Goes through the program; what it carries along is the method that it is in. */
    private static final class Reader extends TreePathScanner<Void, String> {
        private final Trees trees;

        Reader(Trees trees) {
            this.trees = trees;
        }

        private String name(Element method) {
            return method.getEnclosingElement().getSimpleName() + "." + method;
        }

        private String here() {
            return name(trees.getElement(getCurrentPath()));
        }

        @Override
        public Void visitClass(ClassTree tree, String method) {
            long fields = tree.getMembers().stream()
                .filter(member -> member instanceof VariableTree)
                .filter(member -> !((VariableTree) member).getModifiers().getFlags().contains(Modifier.STATIC))
                .count();
            check(fields <= MOST_FIELDS, fields + " fields in " + tree.getSimpleName());
            return super.visitClass(tree, constructor(tree));
        }

        /** What a field's initialiser calls is called by the constructor. */
        private String constructor(ClassTree tree) {
            for (Tree member : tree.getMembers()) {
                if (member instanceof MethodTree && ((MethodTree) member).getName().contentEquals("<init>")) {
                    return name(trees.getElement(new TreePath(getCurrentPath(), member)));
                }
            }
            return tree.getSimpleName() + " without a constructor";
        }

        @Override
        public Void visitMethod(MethodTree tree, String method) {
            CALLED.putIfAbsent(here(), new TreeSet<>());
            check(tree.getParameters().size() <= MOST_PARAMETERS, here() + " has too many parameters");
            return super.visitMethod(tree, here());
        }

        @Override
        public Void visitMethodInvocation(MethodInvocationTree tree, String method) {
            // Each constructor begins with a call of the one above it, which is Object's.
            if (!tree.toString().equals("super()")) {
                calls(method);
            }
            return super.visitMethodInvocation(tree, method);
        }

        @Override
        public Void visitNewClass(NewClassTree tree, String method) {
            calls(method);
            return super.visitNewClass(tree, method);
        }

        private void calls(String method) {
            CALLED.computeIfAbsent(method, any -> new TreeSet<>()).add(here());
        }
    }
}
