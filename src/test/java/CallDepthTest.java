import com.sun.source.tree.ClassTree;
import com.sun.source.tree.CompilationUnitTree;
import com.sun.source.tree.MethodInvocationTree;
import com.sun.source.tree.MethodTree;
import com.sun.source.tree.NewClassTree;
import com.sun.source.util.JavacTask;
import com.sun.source.util.TreePathScanner;
import com.sun.source.util.Trees;
import java.nio.file.Path;
import java.util.ArrayDeque;
import java.util.ArrayList;
import java.util.Deque;
import java.util.List;
import java.util.Map;
import java.util.Set;
import java.util.TreeMap;
import java.util.TreeSet;
import javax.lang.model.element.Element;
import javax.lang.model.element.ElementKind;
import javax.lang.model.element.Modifier;
import javax.tools.JavaCompiler;
import javax.tools.StandardJavaFileManager;
import javax.tools.ToolProvider;

/** Rules 8 and 11 of LANGUAGE.md: how deep calls go, and which methods call themselves, by the compiler's own tree. */
public final class CallDepthTest {
    private static final Path MAIN = Path.of("src/main/java/PalmCensus.java");
    private static final int DEEPEST = 8;
    /** These carry a depth, or a number that goes up to a limit of the document. */
    private static final Set<String> MAY_RECUR =
        Set.of("PalmCensus.RuleReader.readTest", "PalmCensus.RuleReader.readFact", "PalmCensus.Shuns.waysFrom");

    private static final Map<String, Set<String>> CALLS = new TreeMap<>();
    private static final Set<String> FACE = new TreeSet<>();
    private static List<String> longest = List.of();
    private static int wrong = 0;

    public static void main(String[] args) throws Exception {
        readCalls();
        check(FACE.size() == 39, "the face has " + FACE.size() + " methods and constructors");
        check(CALLS.size() > FACE.size(), "there are no methods behind the face");
        for (String method : CALLS.keySet()) {
            boolean recurs = reaches(method).contains(method);
            check(recurs == MAY_RECUR.contains(method), "rule 8: " + method + (recurs ? " calls itself" : " does not call itself"));
        }
        for (String method : FACE) {
            follow(method, new ArrayDeque<>());
        }
        check(longest.size() <= DEEPEST, "rule 11: " + longest.size() + " calls deep: " + longest);
        System.out.println(wrong == 0 ? "calls go " + longest.size() + " deep at most" : wrong + " rules of calls are not kept");
        if (wrong != 0) {
            System.exit(1);
        }
    }

    private static void check(boolean is, String what) {
        if (!is) {
            wrong++;
            System.out.println(what);
        }
    }

    private static String nameOf(Element method) {
        String inside = method.getEnclosingElement().toString();
        return inside + "." + (method.getKind() == ElementKind.CONSTRUCTOR ? "new" : method.getSimpleName());
    }

    private static void readCalls() throws Exception {
        JavaCompiler compiler = ToolProvider.getSystemJavaCompiler();
        try (StandardJavaFileManager files = compiler.getStandardFileManager(null, null, null)) {
            JavacTask task = (JavacTask) compiler.getTask(null, files, null, List.of("-proc:none"), null, files.getJavaFileObjects(MAIN));
            Iterable<? extends CompilationUnitTree> units = task.parse();
            task.analyze();
            for (CompilationUnitTree unit : units) {
                new Reader(Trees.instance(task)).scan(unit, null);
            }
        }
    }

    /** Who calls whom; what stands in a field's initialiser is of the constructor. */
    private static final class Reader extends TreePathScanner<Void, Void> {
        private final Trees trees;
        private final Deque<String> within = new ArrayDeque<>();

        Reader(Trees trees) {
            this.trees = trees;
        }

        @Override
        public Void visitClass(ClassTree tree, Void nothing) {
            within.push(trees.getElement(getCurrentPath()) + ".new");
            super.visitClass(tree, nothing);
            within.pop();
            return null;
        }

        @Override
        public Void visitMethod(MethodTree tree, Void nothing) {
            Element method = trees.getElement(getCurrentPath());
            String name = nameOf(method);
            CALLS.computeIfAbsent(name, n -> new TreeSet<>());
            if (method.getModifiers().contains(Modifier.PUBLIC)) {
                FACE.add(name);
            }
            within.push(name);
            super.visitMethod(tree, nothing);
            within.pop();
            return null;
        }

        @Override
        public Void visitMethodInvocation(MethodInvocationTree tree, Void nothing) {
            addCall();
            return super.visitMethodInvocation(tree, nothing);
        }

        @Override
        public Void visitNewClass(NewClassTree tree, Void nothing) {
            addCall();
            return super.visitNewClass(tree, nothing);
        }

        private void addCall() {
            String called = nameOf(trees.getElement(getCurrentPath()));
            if (called.startsWith("PalmCensus")) {
                CALLS.computeIfAbsent(within.peek(), n -> new TreeSet<>()).add(called);
            }
        }
    }

    private static Set<String> reaches(String method) {
        Set<String> all = new TreeSet<>();
        Deque<String> open = new ArrayDeque<>(CALLS.getOrDefault(method, Set.of()));
        while (!open.isEmpty()) {
            String next = open.pop();
            if (all.add(next)) {
                open.addAll(CALLS.getOrDefault(next, Set.of()));
            }
        }
        return all;
    }

    /** Every way on from here on which no method stands twice: without recursion calls go no deeper. */
    private static void follow(String method, Deque<String> open) {
        if (open.contains(method)) {
            return;
        }
        open.addLast(method);
        if (open.size() > longest.size()) {
            longest = new ArrayList<>(open);
        }
        for (String next : CALLS.getOrDefault(method, Set.of())) {
            follow(next, open);
        }
        open.removeLast();
    }
}
