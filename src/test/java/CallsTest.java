import com.sun.source.tree.ClassTree;
import com.sun.source.tree.CompilationUnitTree;
import com.sun.source.tree.MethodInvocationTree;
import com.sun.source.tree.MethodTree;
import com.sun.source.tree.NewArrayTree;
import com.sun.source.tree.NewClassTree;
import com.sun.source.tree.ThrowTree;
import com.sun.source.util.JavacTask;
import com.sun.source.util.TreePath;
import com.sun.source.util.TreePathScanner;
import com.sun.source.util.Trees;
import java.io.IOException;
import java.nio.file.Path;
import java.util.ArrayList;
import java.util.HashMap;
import java.util.List;
import java.util.Map;
import java.util.Set;
import java.util.TreeMap;
import java.util.TreeSet;
import javax.lang.model.element.Element;
import javax.tools.JavaCompiler;
import javax.tools.StandardJavaFileManager;
import javax.tools.ToolProvider;

/** Who calls whom in the program, as the compiler sees it: rules 4, 8, 11 and 12 of LANGUAGE.md. */
public final class CallsTest extends TreePathScanner<Void, Void> {
    private static final Check CHECK = new Check();
    private static final int DEEPEST = 8;
    private static final String RECURSION = "the recursion";
    private static final Set<String> LIBRARY = Set.of("java.lang.Integer.bitCount",
            "java.lang.Math.max", "java.lang.Math.min", "java.lang.String.charAt",
            "java.lang.String.indexOf", "java.lang.String.length", "java.lang.System.arraycopy",
            "java.util.Arrays.fill", "java.lang.Object.<init>",
            "java.lang.IllegalArgumentException.<init>", "java.util.NoSuchElementException.<init>");

    private final Trees trees;
    private final Map<String, Set<String>> called = new TreeMap<>();
    private final Set<String> library = new TreeSet<>();
    private final List<String> made = new ArrayList<>();
    private String caller = "";
    private boolean makes = true;

    private CallsTest(Trees trees) {
        this.trees = trees;
    }

    public static void main(String[] args) throws IOException {
        JavaCompiler compiler = ToolProvider.getSystemJavaCompiler();
        try (StandardJavaFileManager files = compiler.getStandardFileManager(null, null, null)) {
            JavacTask task = (JavacTask) compiler.getTask(null, files, null, List.of("-proc:none"),
                    null, files.getJavaFileObjects(Path.of(System.getProperty("riverifs.source"))));
            Iterable<? extends CompilationUnitTree> units = task.parse();
            task.analyze();
            CallsTest calls = new CallsTest(Trees.instance(task));
            calls.scan(units, null);
            calls.look();
        }
        CHECK.end();
    }

    private void look() {
        CHECK.promise("LANGUAGE.md, rule 4");
        for (String one : library) {
            CHECK.same(one + " is of the library that may be used", LIBRARY.contains(one), true);
        }
        CHECK.promise("LANGUAGE.md, rule 8");
        Set<String> recursive = recursive();
        CHECK.same("methods that come back to themselves", recursive, new TreeSet<>(
                Set.of("Reader.readExpr", "Reader.readPart", "Reader.readRow")));
        CHECK.promise("LANGUAGE.md, rule 11");
        Map<String, List<String>> chains = new HashMap<>();
        for (String one : called.keySet()) {
            List<String> chain = deepest(one, recursive, chains);
            CHECK.same("calls of " + chain, chain.size() <= DEEPEST, true);
        }
        CHECK.promise("LANGUAGE.md, rule 12");
        CHECK.same("made outside constructors and fields", made, List.of());
    }

    private Set<String> recursive() {
        Set<String> found = new TreeSet<>();
        for (String one : called.keySet()) {
            Set<String> reached = new TreeSet<>();
            List<String> open = new ArrayList<>(called.get(one));
            while (!open.isEmpty()) {
                String next = open.remove(open.size() - 1);
                if (reached.add(next)) {
                    open.addAll(called.getOrDefault(next, Set.of()));
                }
            }
            if (reached.contains(one)) {
                found.add(one);
            }
        }
        return found;
    }

    /** The longest chain of calls from a method on; those of the recursion count as one. */
    private List<String> deepest(String from, Set<String> recursive,
            Map<String, List<String>> known) {
        String name = recursive.contains(from) ? RECURSION : from;
        if (known.containsKey(name)) {
            return known.get(name);
        }
        Set<String> next = new TreeSet<>();
        for (String one : recursive.contains(from) ? recursive : Set.of(from)) {
            next.addAll(called.getOrDefault(one, Set.of()));
        }
        List<String> longest = List.of();
        for (String one : next) {
            boolean goesOn = !recursive.contains(from) || !recursive.contains(one);
            List<String> chain = goesOn ? deepest(one, recursive, known) : List.of();
            longest = chain.size() > longest.size() ? chain : longest;
        }
        List<String> whole = new ArrayList<>(List.of(name));
        whole.addAll(longest);
        known.put(name, whole);
        return whole;
    }

    // ---- what stands in the program ----

    @Override
    public Void visitClass(ClassTree node, Void none) {
        makes = true;
        super.visitClass(node, none);
        return null;
    }

    @Override
    public Void visitMethod(MethodTree node, Void none) {
        caller = nameOf(trees.getElement(getCurrentPath()));
        called.putIfAbsent(caller, new TreeSet<>());
        makes = node.getReturnType() == null;
        super.visitMethod(node, none);
        caller = "";
        makes = true;
        return null;
    }

    @Override
    public Void visitThrow(ThrowTree node, Void none) {
        boolean before = makes;
        makes = true;
        super.visitThrow(node, none);
        makes = before;
        return null;
    }

    @Override
    public Void visitMethodInvocation(MethodInvocationTree node, Void none) {
        call(trees.getElement(new TreePath(getCurrentPath(), node.getMethodSelect())));
        return super.visitMethodInvocation(node, none);
    }

    @Override
    public Void visitNewClass(NewClassTree node, Void none) {
        call(trees.getElement(getCurrentPath()));
        make(node.toString());
        return super.visitNewClass(node, none);
    }

    @Override
    public Void visitNewArray(NewArrayTree node, Void none) {
        make(node.toString());
        return super.visitNewArray(node, none);
    }

    private void make(String what) {
        if (!makes) {
            made.add(caller + ": " + what);
        }
    }

    private void call(Element to) {
        Element of = to.getEnclosingElement();
        if (!of.toString().startsWith("RiverIfs")) {
            library.add(of + "." + to.getSimpleName());
        } else if (!caller.isEmpty()) {
            called.get(caller).add(nameOf(to));
        }
    }

    /** No class of the program has two methods of one name. */
    private static String nameOf(Element method) {
        return method.getEnclosingElement().getSimpleName() + "." + method.getSimpleName();
    }
}
