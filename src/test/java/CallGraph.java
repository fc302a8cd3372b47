import com.sun.source.tree.CompilationUnitTree;
import com.sun.source.tree.MethodInvocationTree;
import com.sun.source.tree.MethodTree;
import com.sun.source.util.TreePath;
import com.sun.source.util.TreePathScanner;
import com.sun.source.util.Trees;
import java.util.ArrayDeque;
import java.util.Deque;
import java.util.HashMap;
import java.util.LinkedHashMap;
import java.util.LinkedHashSet;
import java.util.Map;
import java.util.Set;
import javax.lang.model.element.Element;
import javax.lang.model.element.ElementKind;

/** Which of a source's own methods calls which. */
final class CallGraph extends TreePathScanner<Void, Void> {
    private final Trees trees;
    private final Map<Element, Set<Element>> called = new LinkedHashMap<>();
    private final Map<Element, Integer> depths = new HashMap<>();
    private Element at;

    CallGraph(Trees trees, CompilationUnitTree unit) {
        this.trees = trees;
        scan(unit, null);
        for (Set<Element> some : called.values()) some.retainAll(called.keySet());
    }

    @Override
    public Void visitMethod(MethodTree node, Void none) {
        at = trees.getElement(getCurrentPath());
        if (at.getKind() == ElementKind.METHOD) called.put(at, new LinkedHashSet<>());
        return super.visitMethod(node, none);
    }

    @Override
    public Void visitMethodInvocation(MethodInvocationTree node, Void none) {
        if (called.containsKey(at)) called.get(at).add(trees.getElement(new TreePath(getCurrentPath(), node.getMethodSelect())));
        return super.visitMethodInvocation(node, none);
    }

    Set<Element> methods() {
        return called.keySet();
    }

    private Set<Element> reached(Element from) {
        Set<Element> seen = new LinkedHashSet<>();
        Deque<Element> open = new ArrayDeque<>(called.get(from));
        while (!open.isEmpty()) {
            Element one = open.poll();
            if (seen.add(one)) open.addAll(called.get(one));
        }
        return seen;
    }

    /** Whether a method calls itself, at once or through others. */
    boolean isRecursive(Element method) {
        return reached(method).contains(method);
    }

    /** How many methods that are no recursion stand open at once at most, this one and those that it calls. */
    int depth(Element method) {
        Integer known = depths.get(method);
        if (known != null) return known;
        boolean recursive = isRecursive(method);
        Set<Element> round = recursive ? reached(method) : Set.of(method);
        int deepest = 0;
        for (Element one : recursive ? round : called.get(method)) {
            if (!recursive) deepest = Math.max(deepest, depth(one));
            else if (!reached(one).contains(method)) deepest = Math.max(deepest, depth(one));
        }
        int depth = deepest + (recursive ? 0 : 1);
        depths.put(method, depth);
        return depth;
    }
}
