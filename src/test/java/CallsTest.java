import com.sun.source.tree.ClassTree;
import com.sun.source.tree.CompilationUnitTree;
import com.sun.source.tree.MethodInvocationTree;
import com.sun.source.tree.MethodTree;
import com.sun.source.tree.NewClassTree;
import com.sun.source.tree.Tree;
import com.sun.source.util.JavacTask;
import com.sun.source.util.TreePath;
import com.sun.source.util.TreePathScanner;
import com.sun.source.util.Trees;
import java.io.File;
import java.io.IOException;
import java.util.ArrayList;
import java.util.List;
import java.util.Map;
import java.util.Set;
import java.util.TreeMap;
import java.util.TreeSet;
import javax.lang.model.element.Element;
import javax.tools.JavaCompiler;
import javax.tools.StandardJavaFileManager;
import javax.tools.ToolProvider;

/** Who calls whom in the class, as javac reads it: rules 4, 8 and 11 of LANGUAGE.md. */
public final class CallsTest {
    private static final Check CHECK = new Check("CallsTest");
    private static final int MOST_DEEP = 8;
    private static final Set<String> LIBRARY = Set.of("String.indexOf", "System.arraycopy", "Arrays.copyOf", "Arrays.fill",
        "Math.max", "Math.min", "Math.abs", "Integer.bitCount", "NoSuchElementException.<init>");
    private static final Set<String> RECURSIVE = Set.of("LawReader.readsCondition", "LawReader.readsUnit",
        "LawReader.readsSum", "LawReader.readsAtom");

    private final Map<String, Set<String>> calls = new TreeMap<>();

    public static void main(String[] args) throws IOException {
        CallsTest test = new CallsTest();
        test.reads(new File("src/main/java/WaxReign.java"));
        CHECK.isTrue("methods were found", test.calls.size() > 100);
        for (String caller : test.calls.keySet()) {
            test.callsOnlyWhatMayBe(caller);
            test.recursesOnlyWhereGuarded(caller);
            test.goesNotTooDeep(List.of(caller));
        }
        CHECK.ends();
    }

    private void reads(File source) throws IOException {
        JavaCompiler compiler = ToolProvider.getSystemJavaCompiler();
        StandardJavaFileManager files = compiler.getStandardFileManager(null, null, null);
        JavacTask task = (JavacTask) compiler.getTask(null, files, null, List.of("-proc:none"), null,
            files.getJavaFileObjects(source));
        Iterable<? extends CompilationUnitTree> units = task.parse();
        task.analyze();
        Trees trees = Trees.instance(task);
        for (CompilationUnitTree unit : units) {
            new Scanner(trees).scan(unit, null);
        }
    }

    private void callsOnlyWhatMayBe(String caller) {
        for (String called : calls.get(caller)) {
            CHECK.isTrue(caller + " calls " + called, calls.containsKey(called) || LIBRARY.contains(called));
        }
    }

    private void recursesOnlyWhereGuarded(String caller) {
        Set<String> reached = new TreeSet<>();
        List<String> open = new ArrayList<>(calls.get(caller));
        while (!open.isEmpty()) {
            String next = open.remove(open.size() - 1);
            if (reached.add(next)) {
                open.addAll(calls.getOrDefault(next, Set.of()));
            }
        }
        CHECK.isTrue(caller + " calls itself", !reached.contains(caller) || RECURSIVE.contains(caller));
    }

    /** The library's own methods count as calls, too; a method that calls itself counts once. */
    private void goesNotTooDeep(List<String> chain) {
        CHECK.isTrue("eight deep at most: " + chain, chain.size() <= MOST_DEEP);
        if (chain.size() > MOST_DEEP) {
            return;
        }
        for (String called : calls.getOrDefault(chain.get(chain.size() - 1), Set.of())) {
            if (!chain.contains(called)) {
                List<String> longer = new ArrayList<>(chain);
                longer.add(called);
                goesNotTooDeep(longer);
            }
        }
    }

    private final class Scanner extends TreePathScanner<Void, Void> {
        private final Trees trees;
        private String caller = "";

        Scanner(Trees trees) {
            this.trees = trees;
        }

        @Override
        public Void visitMethod(MethodTree method, Void none) {
            String around = caller;
            caller = nameOf(getCurrentPath());
            calls.computeIfAbsent(caller, name -> new TreeSet<>());
            super.visitMethod(method, none);
            caller = around;
            return null;
        }

        @Override
        public Void visitClass(ClassTree tree, Void none) {
            String around = caller;
            caller = tree.getSimpleName() + ".<init>";
            calls.computeIfAbsent(caller, name -> new TreeSet<>());
            super.visitClass(tree, none);
            caller = around;
            return null;
        }

        @Override
        public Void visitMethodInvocation(MethodInvocationTree call, Void none) {
            notes(new TreePath(getCurrentPath(), call.getMethodSelect()));
            return super.visitMethodInvocation(call, none);
        }

        @Override
        public Void visitNewClass(NewClassTree made, Void none) {
            notes(getCurrentPath());
            return super.visitNewClass(made, none);
        }

        private void notes(TreePath path) {
            String called = nameOf(path);
            if (!called.equals("Object.<init>")) {
                calls.computeIfAbsent(caller, name -> new TreeSet<>()).add(called);
            }
        }

        private String nameOf(TreePath path) {
            Element element = trees.getElement(path);
            Tree leaf = path.getLeaf();
            return element == null ? leaf.toString() : element.getEnclosingElement().getSimpleName() + "." + element.getSimpleName();
        }
    }
}
