import com.sun.source.tree.ClassTree;
import com.sun.source.tree.CompilationUnitTree;
import com.sun.source.tree.MethodInvocationTree;
import com.sun.source.tree.MethodTree;
import com.sun.source.tree.NewClassTree;
import com.sun.source.util.JavacTask;
import com.sun.source.util.TreePath;
import com.sun.source.util.TreePathScanner;
import com.sun.source.util.Trees;
import java.io.IOException;
import java.nio.file.Path;
import java.util.ArrayList;
import java.util.HashSet;
import java.util.LinkedHashMap;
import java.util.LinkedHashSet;
import java.util.List;
import java.util.Map;
import java.util.Set;
import javax.lang.model.element.Element;
import javax.lang.model.element.ExecutableElement;
import javax.lang.model.element.TypeElement;
import javax.tools.JavaCompiler;
import javax.tools.StandardJavaFileManager;
import javax.tools.ToolProvider;

/** LANGUAGE.md, rules 8 and 11: how deep calls go, as the source says, and which methods call themselves. */
public final class DepthTest extends TreePathScanner<Void, Void> {
    private static final int MOST_DEEP = 8;
    /** Walk.goOn carries its depth, the steps it has gone, as an argument. */
    private static final Set<String> RECURSIVE = Set.of("RopeRound.Walk.goOn");

    private final Trees trees;
    private final JavacTask task;
    private final Map<ExecutableElement, Set<ExecutableElement>> calls = new LinkedHashMap<>();
    private final List<TypeElement> types = new ArrayList<>();
    private ExecutableElement now;

    private DepthTest(JavacTask task) {
        this.task = task;
        this.trees = Trees.instance(task);
    }

    public static void main(String[] args) throws IOException {
        JavaCompiler compiler = ToolProvider.getSystemJavaCompiler();
        StandardJavaFileManager files = compiler.getStandardFileManager(null, null, null);
        Path source = Path.of(args.length > 0 ? args[0] : "src/main/java/RopeRound.java");
        JavacTask task = (JavacTask) compiler.getTask(null, files, null, List.of("-proc:none"), null,
                files.getJavaFileObjects(source));
        DepthTest test = new DepthTest(task);
        List<CompilationUnitTree> units = new ArrayList<>();
        task.parse().forEach(units::add);
        task.analyze();
        for (CompilationUnitTree unit : units) {
            test.scan(unit, null);
        }
        test.judge();
        Due.end();
    }

    @Override
    public Void visitClass(ClassTree tree, Void none) {
        types.add((TypeElement) trees.getElement(getCurrentPath()));
        return super.visitClass(tree, none);
    }

    @Override
    public Void visitMethod(MethodTree tree, Void none) {
        now = (ExecutableElement) trees.getElement(getCurrentPath());
        calls.putIfAbsent(now, new LinkedHashSet<>());
        super.visitMethod(tree, none);
        now = null;
        return none;
    }

    @Override
    public Void visitMethodInvocation(MethodInvocationTree tree, Void none) {
        note(trees.getElement(new TreePath(getCurrentPath(), tree.getMethodSelect())));
        return super.visitMethodInvocation(tree, none);
    }

    @Override
    public Void visitNewClass(NewClassTree tree, Void none) {
        note(trees.getElement(getCurrentPath()));
        return super.visitNewClass(tree, none);
    }

    private void note(Element called) {
        if (now != null && called instanceof ExecutableElement method) {
            calls.get(now).add(method);
        }
    }

    /** A method and all that override it in the file. */
    private Set<ExecutableElement> bodies(ExecutableElement method) {
        Set<ExecutableElement> all = new LinkedHashSet<>();
        for (ExecutableElement own : calls.keySet()) {
            boolean overrides = types.stream().anyMatch(type -> task.getElements().overrides(own, method, type));
            if (own.equals(method) || overrides) {
                all.add(own);
            }
        }
        return all;
    }

    private static String nameOf(ExecutableElement method) {
        return method.getEnclosingElement() + "." + method.getSimpleName();
    }

    private List<String> deepest(ExecutableElement method, Set<ExecutableElement> open, Set<String> recursive) {
        List<String> longest = new ArrayList<>();
        open.add(method);
        for (ExecutableElement called : calls.get(method)) {
            for (ExecutableElement body : bodies(called)) {
                if (open.contains(body)) {
                    recursive.add(nameOf(body));
                    continue;
                }
                List<String> below = deepest(body, open, recursive);
                longest = below.size() > longest.size() ? below : longest;
            }
        }
        open.remove(method);
        longest.add(0, nameOf(method));
        return longest;
    }

    private void judge() {
        Set<String> recursive = new HashSet<>();
        int most = 0;
        for (ExecutableElement method : calls.keySet()) {
            List<String> chain = deepest(method, new HashSet<>(), recursive);
            Due.holds("calls go at most " + MOST_DEEP + " deep: " + chain, chain.size() <= MOST_DEEP);
            most = Math.max(most, chain.size());
        }
        Due.holds("the calls are seen: " + most, most > 3);
        Due.holds("these alone call themselves: " + recursive, recursive.equals(RECURSIVE));
    }
}
