import com.sun.source.tree.ClassTree;
import com.sun.source.tree.CompilationUnitTree;
import com.sun.source.tree.MethodInvocationTree;
import com.sun.source.tree.MethodTree;
import com.sun.source.tree.NewClassTree;
import com.sun.source.tree.Tree;
import com.sun.source.tree.VariableTree;
import com.sun.source.util.JavacTask;
import com.sun.source.util.TreePathScanner;
import com.sun.source.util.Trees;
import java.io.IOException;
import java.nio.file.Path;
import java.util.ArrayList;
import java.util.Collection;
import java.util.LinkedHashMap;
import java.util.LinkedHashSet;
import java.util.List;
import java.util.Map;
import java.util.Set;
import java.util.TreeSet;
import javax.lang.model.element.Element;
import javax.lang.model.element.ElementKind;
import javax.lang.model.element.Modifier;
import javax.tools.JavaCompiler;
import javax.tools.StandardJavaFileManager;
import javax.tools.ToolProvider;

/** What the compiler knows of the program's one file: its methods, its fields, and who calls whom. */
final class Source extends TreePathScanner<Void, Void> {
    private static final Path FILE = Path.of("src/main/java/QuietChecker.java");

    /** The length of each method in lines. */
    final Map<Element, Long> lengths = new LinkedHashMap<>();
    final Map<Element, Integer> parameters = new LinkedHashMap<>();
    /** The fields of each class, but for its constants. */
    final Map<String, Integer> fields = new LinkedHashMap<>();
    final Set<String> changingStatics = new TreeSet<>();
    final Set<String> libraryCalls = new TreeSet<>();
    final Set<Tree.Kind> kinds = new LinkedHashSet<>();
    private final Map<Element, Set<Element>> calls = new LinkedHashMap<>();
    private final CompilationUnitTree unit;
    private final Trees trees;
    private Element method;

    Source() throws IOException {
        JavaCompiler compiler = ToolProvider.getSystemJavaCompiler();
        try (StandardJavaFileManager files = compiler.getStandardFileManager(null, null, null)) {
            JavacTask task = (JavacTask) compiler.getTask(
                    null, files, null, List.of("-proc:none"), null, files.getJavaFileObjects(FILE));
            unit = task.parse().iterator().next();
            task.analyze();
            trees = Trees.instance(task);
            scan(unit, null);
        }
    }

    @Override
    public Void scan(Tree tree, Void none) {
        if (tree != null) {
            kinds.add(tree.getKind());
        }
        return super.scan(tree, none);
    }

    @Override
    public Void visitClass(ClassTree tree, Void none) {
        fields.put(element().toString(), 0);
        return super.visitClass(tree, none);
    }

    @Override
    public Void visitVariable(VariableTree tree, Void none) {
        Element variable = element();
        if (variable.getKind() == ElementKind.FIELD) {
            boolean shared = variable.getModifiers().contains(Modifier.STATIC);
            if (shared && !variable.getModifiers().contains(Modifier.FINAL)) {
                changingStatics.add(variable.toString());
            }
            fields.merge(variable.getEnclosingElement().toString(), shared ? 0 : 1, Integer::sum);
        }
        return super.visitVariable(tree, none);
    }

    @Override
    public Void visitMethod(MethodTree tree, Void none) {
        Element before = method;
        method = element();
        calls.putIfAbsent(method, new LinkedHashSet<>());
        parameters.put(method, tree.getParameters().size());
        long first = trees.getSourcePositions().getStartPosition(unit, tree);
        long last = trees.getSourcePositions().getEndPosition(unit, tree);
        if (last > first) {
            lengths.put(method, line(last) - line(first) + 1);
        }
        super.visitMethod(tree, none);
        method = before;
        return null;
    }

    @Override
    public Void visitMethodInvocation(MethodInvocationTree tree, Void none) {
        noteCall(element());
        return super.visitMethodInvocation(tree, none);
    }

    @Override
    public Void visitNewClass(NewClassTree tree, Void none) {
        noteCall(element());
        return super.visitNewClass(tree, none);
    }

    private Element element() {
        return trees.getElement(getCurrentPath());
    }

    private long line(long position) {
        return unit.getLineMap().getLineNumber(position);
    }

    private void noteCall(Element called) {
        String owner = called.getEnclosingElement().toString();
        if (!owner.startsWith("QuietChecker")) {
            libraryCalls.add(owner + "." + called.getSimpleName());
        } else if (method != null) {
            calls.computeIfAbsent(method, m -> new LinkedHashSet<>()).add(called);
        }
    }

    /** The longest chain of methods that call one another; what is one recursion counts once. */
    List<Element> longestChain() {
        Map<Element, List<Element>> known = new LinkedHashMap<>();
        List<Element> longest = List.of();
        for (Element start : calls.keySet()) {
            longest = longer(longest, chainFrom(start, known));
        }
        return longest;
    }

    private List<Element> chainFrom(Element start, Map<Element, List<Element>> known) {
        if (!known.containsKey(start)) {
            Set<Element> recursion = recursionOf(start);
            List<Element> behind = List.of();
            for (Element one : recursion) {
                for (Element called : calls.getOrDefault(one, Set.of())) {
                    if (!recursion.contains(called)) {
                        behind = longer(behind, chainFrom(called, known));
                    }
                }
            }
            List<Element> chain = new ArrayList<>(List.of(start));
            chain.addAll(behind);
            known.put(start, chain);
        }
        return known.get(start);
    }

    private Set<Element> recursionOf(Element start) {
        Set<Element> recursion = new LinkedHashSet<>(List.of(start));
        for (Element reached : reachedFrom(start)) {
            if (reachedFrom(reached).contains(start)) {
                recursion.add(reached);
            }
        }
        return recursion;
    }

    private Collection<Element> reachedFrom(Element start) {
        Set<Element> reached = new LinkedHashSet<>();
        List<Element> open = new ArrayList<>(List.of(start));
        for (int k = 0; k < open.size(); k++) {
            for (Element called : calls.getOrDefault(open.get(k), Set.of())) {
                if (reached.add(called)) {
                    open.add(called);
                }
            }
        }
        return reached;
    }

    private static List<Element> longer(List<Element> one, List<Element> another) {
        return one.size() >= another.size() ? one : another;
    }
}
