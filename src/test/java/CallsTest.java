import com.sun.source.tree.CompilationUnitTree;
import com.sun.source.tree.MethodInvocationTree;
import com.sun.source.tree.MethodTree;
import com.sun.source.tree.NewClassTree;
import com.sun.source.tree.Tree;
import com.sun.source.util.JavacTask;
import com.sun.source.util.TreePath;
import com.sun.source.util.TreePathScanner;
import com.sun.source.util.Trees;
import java.io.IOException;
import java.nio.file.Path;
import java.util.Map;
import java.util.Set;
import java.util.TreeMap;
import java.util.TreeSet;
import javax.lang.model.element.Element;
import javax.tools.JavaCompiler;
import javax.tools.StandardJavaFileManager;
import javax.tools.ToolProvider;

/**
 * Who calls whom in the program, for the rules of LANGUAGE.md on the library (4), on recursion (8) and
 * on calls inside calls (11).
 */
public final class CallsTest extends TreePathScanner<Void, Void> {
    private static final Path PROGRAM = Path.of("src/main/java/DropFour.java");
    private static final Set<String> LIBRARY = Set.of("Math.max", "Math.min", "Math.abs", "Long.bitCount", "Object.new");
    // The search: each level of its depth goes through these three, and there are 12 levels at most.
    private static final Set<String> RECURSIVE = Set.of("Search.score", "Search.remembered", "Search.tried");
    private static final int MOST_CALLS_DEEP = 8;

    private final Check check = new Check();
    private final Map<String, Set<String>> called = new TreeMap<>();
    private Trees trees;

    public static void main(String[] args) throws IOException {
        new CallsTest().all();
    }

    private void all() throws IOException {
        JavaCompiler compiler = ToolProvider.getSystemJavaCompiler();
        try (StandardJavaFileManager files = compiler.getStandardFileManager(null, null, null)) {
            JavacTask task = (JavacTask) compiler.getTask(null, files, null, null, null, files.getJavaFileObjects(PROGRAM));
            trees = Trees.instance(task);
            Iterable<? extends CompilationUnitTree> units = task.parse();
            task.analyze();
            for (CompilationUnitTree unit : units) {
                scan(new TreePath(unit), null);
            }
        }
        for (String method : called.keySet()) {
            check.same("rule 8: " + method + " comes back to itself", reaches(method, method, new TreeSet<>()),
                    RECURSIVE.contains(method));
            int deep = deepest(method, new TreeSet<>());
            check.same("rule 11: " + method + " goes " + deep + " calls deep", deep <= MOST_CALLS_DEEP, true);
        }
        check.same("the recursive methods are there", called.keySet().containsAll(RECURSIVE), true);
        check.end("CallsTest");
    }

    @Override
    public Void visitMethod(MethodTree tree, Void none) {
        called.computeIfAbsent(nameOf(trees.getElement(getCurrentPath())), any -> new TreeSet<>());
        return super.visitMethod(tree, none);
    }

    @Override
    public Void visitMethodInvocation(MethodInvocationTree tree, Void none) {
        note(trees.getElement(getCurrentPath()));
        return super.visitMethodInvocation(tree, none);
    }

    @Override
    public Void visitNewClass(NewClassTree tree, Void none) {
        note(trees.getElement(getCurrentPath()));
        return super.visitNewClass(tree, none);
    }

    private void note(Element callee) {
        String name = nameOf(callee);
        boolean isOwn = callee.getEnclosingElement().toString().startsWith("DropFour");
        boolean isException = name.endsWith("Exception.new");
        check.same("rule 4: " + name, isOwn || isException || LIBRARY.contains(name), true);
        if (isOwn) {
            called.computeIfAbsent(caller(), any -> new TreeSet<>()).add(name);
        }
    }

    /** The method around a call; for a field's first value, the constructor of its class. */
    private String caller() {
        for (TreePath path = getCurrentPath(); path != null; path = path.getParentPath()) {
            if (path.getLeaf().getKind() == Tree.Kind.METHOD) {
                return nameOf(trees.getElement(path));
            }
            if (path.getLeaf().getKind() == Tree.Kind.CLASS) {
                return trees.getElement(path).getSimpleName() + ".new";
            }
        }
        return "nobody";
    }

    private static String nameOf(Element method) {
        String name = method.getSimpleName().toString();
        return method.getEnclosingElement().getSimpleName() + "." + (name.equals("<init>") ? "new" : name);
    }

    private Set<String> calledBy(String method) {
        return called.getOrDefault(method, Set.of());
    }

    private boolean reaches(String from, String wanted, Set<String> seen) {
        for (String next : calledBy(from)) {
            if (next.equals(wanted) || seen.add(next) && reaches(next, wanted, seen)) {
                return true;
            }
        }
        return false;
    }

    /** The longest chain of calls, each method of a recursion counted once. */
    private int deepest(String method, Set<String> open) {
        int deepest = 0;
        if (open.add(method)) {
            for (String next : calledBy(method)) {
                deepest = Math.max(deepest, deepest(next, open));
            }
            open.remove(method);
            deepest++;
        }
        return deepest;
    }
}
