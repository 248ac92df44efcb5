import com.sun.source.tree.MemberSelectTree;
import com.sun.source.tree.MethodInvocationTree;
import com.sun.source.tree.Tree;
import com.sun.source.util.TreePath;
import java.io.IOException;
import java.util.ArrayList;
import java.util.HashMap;
import java.util.LinkedHashSet;
import java.util.List;
import java.util.Map;
import java.util.Set;
import javax.lang.model.element.Element;
import javax.lang.model.element.ElementKind;

/** Rules 8 and 11 of ../shared/LANGUAGE.md: no method comes to itself again, and calls go at most eight deep. */
public final class DepthTest {
    private static final Due due = new Due();
    private static final int DEEPEST = 8;
    private static final Map<Element, Set<Element>> CALLS = new HashMap<>();
    private static final Map<Element, Integer> DEPTHS = new HashMap<>();
    private static Source source;

    public static void main(String[] args) throws IOException {
        source = new Source();
        for (TreePath path : source.of(Tree.Kind.METHOD)) {
            CALLS.put(source.named(path), new LinkedHashSet<>());
        }
        for (TreePath path : source.of(Tree.Kind.METHOD_INVOCATION)) {
            gather(path);
        }
        due.same("methods are found", CALLS.size() > 33 ? 1 : 0, 1);
        for (Element method : CALLS.keySet()) {
            due.same("11: calls from " + method, Math.max(depth(method, new ArrayList<>()), DEEPEST), DEEPEST);
        }
        due.end("DepthTest");
    }

    private static void gather(TreePath path) {
        MethodInvocationTree call = (MethodInvocationTree) path.getLeaf();
        TreePath within = Source.methodOf(path);
        if (within == null) {
            due.same("a field calls no method: " + call, 1, 0);
            return;
        }
        Element called = source.named(new TreePath(path, call.getMethodSelect()));
        Set<Element> calls = CALLS.get(source.named(within));
        calls.add(called);
        if (!isToSuper(call)) {
            calls.addAll(overriding(called));
        }
    }

    private static boolean isToSuper(MethodInvocationTree call) {
        Tree select = call.getMethodSelect();
        return select instanceof MemberSelectTree && ((MemberSelectTree) select).getExpression().toString().equals("super");
    }

    /** The methods of classes below that stand in for a method when it is called. */
    private static List<Element> overriding(Element called) {
        List<Element> found = new ArrayList<>();
        for (Element method : CALLS.keySet()) {
            boolean below = source.isUnder(method.getEnclosingElement(), called.getEnclosingElement());
            if (below && method.getKind() == ElementKind.METHOD && method.toString().equals(called.toString())) {
                found.add(method);
            }
        }
        return found;
    }

    /** How many calls stand open at most when a method is called, those of the library too. */
    private static int depth(Element method, List<Element> open) {
        if (DEPTHS.containsKey(method)) {
            return DEPTHS.get(method);
        }
        due.same("8: " + method + " does not come to itself again", open.contains(method) ? 1 : 0, 0);
        if (open.contains(method)) {
            return 0;
        }
        open.add(method);
        int deepest = 0;
        for (Element called : CALLS.getOrDefault(method, Set.of())) {
            deepest = Math.max(deepest, depth(called, open));
        }
        open.remove(method);
        DEPTHS.put(method, deepest + 1);
        return deepest + 1;
    }
}
