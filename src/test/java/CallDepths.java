import com.sun.source.tree.ClassTree;
import com.sun.source.tree.MethodInvocationTree;
import com.sun.source.tree.MethodTree;
import com.sun.source.tree.NewClassTree;
import com.sun.source.util.TreePath;
import com.sun.source.util.TreePathScanner;
import java.util.ArrayDeque;
import java.util.ArrayList;
import java.util.Deque;
import java.util.LinkedHashMap;
import java.util.LinkedHashSet;
import java.util.List;
import java.util.Map;
import java.util.Set;
import javax.lang.model.element.Element;
import javax.lang.model.element.ElementKind;

/** Who calls whom in a file: how deep calls go, and whether one comes back to itself. */
final class CallDepths extends TreePathScanner<Void, Void> {
    private static final int MOST_DEEP = 8;

    private final Source source;
    private final Map<Element, Set<Element>> calls = new LinkedHashMap<>();
    private final List<Breach> breaches = new ArrayList<>();

    private CallDepths(Source source) {
        this.source = source;
    }

    static List<Breach> breaches(Source source) {
        CallDepths depths = new CallDepths(source);
        depths.scan(source.unit(), null);
        for (Element method : depths.calls.keySet()) {
            depths.follow(method, new ArrayDeque<>());
        }
        return depths.breaches;
    }

    @Override
    public Void visitMethod(MethodTree tree, Void nothing) {
        calls.computeIfAbsent(source.trees().getElement(getCurrentPath()),
                method -> new LinkedHashSet<>());
        return super.visitMethod(tree, nothing);
    }

    @Override
    public Void visitMethodInvocation(MethodInvocationTree tree, Void nothing) {
        called(source.trees().getElement(getCurrentPath()));
        return super.visitMethodInvocation(tree, nothing);
    }

    @Override
    public Void visitNewClass(NewClassTree tree, Void nothing) {
        called(source.trees().getElement(getCurrentPath()));
        return super.visitNewClass(tree, nothing);
    }

    private void called(Element method) {
        if (method == null || source.trees().getPath(method.getEnclosingElement()) == null) {
            return;
        }
        for (Element caller : callers()) {
            calls.computeIfAbsent(caller, c -> new LinkedHashSet<>()).add(method);
        }
    }

    /** The method round this place; round a field's initialiser, every constructor of its class. */
    private List<Element> callers() {
        for (TreePath path = getCurrentPath(); path != null; path = path.getParentPath()) {
            Element element = source.trees().getElement(path);
            if (path.getLeaf() instanceof MethodTree) {
                return List.of(element);
            }
            if (path.getLeaf() instanceof ClassTree) {
                return element.getEnclosedElements().stream()
                        .filter(e -> e.getKind() == ElementKind.CONSTRUCTOR)
                        .map(e -> (Element) e).toList();
            }
        }
        return List.of();
    }

    private void follow(Element method, Deque<Element> open) {
        if (open.contains(method)) {
            breach(8, "Recursion", method, "calls itself");
            return;
        }
        open.push(method);
        if (open.size() > MOST_DEEP) {
            breach(11, "calls that are no recursion go at most eight deep", method, "" + open);
        } else {
            for (Element next : calls.getOrDefault(method, Set.of())) {
                follow(next, open);
            }
        }
        open.pop();
    }

    private void breach(int rule, String words, Element method, String what) {
        long line = source.firstLine(source.trees().getTree(method));
        breaches.add(new Breach(rule, words, line, method + " " + what));
    }
}
