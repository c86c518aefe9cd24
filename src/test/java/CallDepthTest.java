import com.sun.source.tree.ClassTree;
import com.sun.source.tree.CompilationUnitTree;
import com.sun.source.tree.MethodInvocationTree;
import com.sun.source.tree.MethodTree;
import com.sun.source.tree.NewClassTree;
import com.sun.source.tree.VariableTree;
import com.sun.source.util.JavacTask;
import com.sun.source.util.TreePath;
import com.sun.source.util.TreePathScanner;
import com.sun.source.util.Trees;
import java.io.File;
import java.util.ArrayList;
import java.util.HashMap;
import java.util.LinkedHashMap;
import java.util.LinkedHashSet;
import java.util.List;
import java.util.Map;
import java.util.Set;
import javax.lang.model.element.Element;
import javax.lang.model.element.ExecutableElement;
import javax.lang.model.element.Modifier;
import javax.tools.JavaCompiler;
import javax.tools.StandardJavaFileManager;
import javax.tools.ToolProvider;

/**
 * Rule 11 of LANGUAGE.md: calls that are no recursion go at most eight deep. The source of the class is read for who
 * calls whom; methods that call themselves, straight or by others, are left out of the count, all others count one each,
 * the public method, too.
 */
public final class CallDepthTest {

    private static final int DEEPEST = 8;

    private final Map<Element, Set<Element>> calls = new LinkedHashMap<>();
    private final Map<Element, Set<Element>> reached = new HashMap<>();
    private final Map<Element, List<Element>> deepest = new HashMap<>();

    public static void main(String[] args) throws Exception {
        String file = args.length > 0 ? args[0] : "src/main/java/RewriteHouse.java";
        int most = args.length > 1 ? Integer.parseInt(args[1]) : DEEPEST;
        CallDepthTest test = new CallDepthTest();
        test.read(new File(file));
        System.exit(test.tellDeep(most) ? 1 : 0);
    }

    private void read(File file) throws Exception {
        JavaCompiler compiler = ToolProvider.getSystemJavaCompiler();
        StandardJavaFileManager files = compiler.getStandardFileManager(null, null, null);
        JavacTask task = (JavacTask) compiler.getTask(null, files, null, List.of("-proc:none"), null, files.getJavaFileObjects(file));
        Iterable<? extends CompilationUnitTree> units = task.parse();
        task.analyze();
        for (CompilationUnitTree unit : units) {
            new Scanner(Trees.instance(task)).scan(unit, null);
        }
        calls.values().forEach(called -> called.retainAll(calls.keySet()));
    }

    /** Tells the deepest way of each public method that goes too deep. */
    private boolean tellDeep(int most) {
        boolean bad = false;
        for (Element method : calls.keySet()) {
            boolean face = method.getEnclosingElement().getSimpleName().contentEquals("RewriteHouse");
            if (!face || !method.getModifiers().contains(Modifier.PUBLIC)) {
                continue;
            }
            List<Element> way = deepestFrom(method);
            if (countOf(way) > most) {
                System.out.println(countOf(way) + " deep: " + told(way));
                bad = true;
            }
        }
        if (calls.size() < 100) {
            System.out.println("only " + calls.size() + " methods were seen");
            bad = true;
        }
        return bad;
    }

    private long countOf(List<Element> way) {
        return way.stream().filter(method -> !isRecursion(method)).count();
    }

    private String told(List<Element> way) {
        StringBuilder text = new StringBuilder();
        for (Element method : way) {
            String name = method.getEnclosingElement().getSimpleName() + "." + method.getSimpleName();
            text.append(text.length() == 0 ? "" : ", ").append(isRecursion(method) ? "(" + name + ")" : name);
        }
        return text.toString();
    }

    private boolean isRecursion(Element method) {
        return reachedFrom(method).contains(method);
    }

    private Set<Element> reachedFrom(Element method) {
        Set<Element> all = reached.get(method);
        if (all == null) {
            all = new LinkedHashSet<>(calls.get(method));
            List<Element> open = new ArrayList<>(all);
            for (int k = 0; k < open.size(); k++) {
                for (Element called : calls.get(open.get(k))) {
                    if (all.add(called)) {
                        open.add(called);
                    }
                }
            }
            reached.put(method, all);
        }
        return all;
    }

    private List<Element> deepestFrom(Element method) {
        List<Element> way = deepest.get(method);
        if (way != null) {
            return way;
        }
        way = List.of();
        for (Element next : next(method)) {
            List<Element> further = deepestFrom(next);
            if (way.isEmpty() || countOf(further) > countOf(way)) {
                way = further;
            }
        }
        List<Element> whole = new ArrayList<>();
        whole.add(method);
        whole.addAll(way);
        deepest.put(method, whole);
        return whole;
    }

    /** What a method calls; of a recursion what any method of it calls that is not of it. */
    private Set<Element> next(Element method) {
        if (!isRecursion(method)) {
            return calls.get(method);
        }
        Set<Element> all = new LinkedHashSet<>();
        for (Element other : reachedFrom(method)) {
            if (reachedFrom(other).contains(method)) {
                all.addAll(calls.get(other));
            }
        }
        all.removeIf(called -> reachedFrom(called).contains(method));
        return all;
    }

    /** Who calls whom; what stands in a field's first value is called by the constructors. */
    private final class Scanner extends TreePathScanner<Void, Void> {
        private final Trees trees;
        private final List<Element> callers = new ArrayList<>();

        Scanner(Trees trees) {
            this.trees = trees;
        }

        @Override
        public Void visitMethod(MethodTree tree, Void none) {
            List<Element> outer = List.copyOf(callers);
            callers.clear();
            callers.add(trees.getElement(getCurrentPath()));
            calls.computeIfAbsent(callers.get(0), key -> new LinkedHashSet<>());
            super.visitMethod(tree, none);
            callers.clear();
            callers.addAll(outer);
            return null;
        }

        @Override
        public Void visitVariable(VariableTree tree, Void none) {
            if (!(getCurrentPath().getParentPath().getLeaf() instanceof ClassTree)) {
                return super.visitVariable(tree, none);
            }
            for (Element member : trees.getElement(getCurrentPath()).getEnclosingElement().getEnclosedElements()) {
                if (member.getSimpleName().contentEquals("<init>")) {
                    callers.add(member);
                    calls.computeIfAbsent(member, key -> new LinkedHashSet<>());
                }
            }
            super.visitVariable(tree, none);
            callers.clear();
            return null;
        }

        @Override
        public Void visitMethodInvocation(MethodInvocationTree tree, Void none) {
            add(new TreePath(getCurrentPath(), tree.getMethodSelect()));
            return super.visitMethodInvocation(tree, none);
        }

        @Override
        public Void visitNewClass(NewClassTree tree, Void none) {
            add(getCurrentPath());
            return super.visitNewClass(tree, none);
        }

        private void add(TreePath path) {
            Element called = trees.getElement(path);
            if (called instanceof ExecutableElement) {
                callers.forEach(caller -> calls.get(caller).add(called));
            }
        }
    }
}
