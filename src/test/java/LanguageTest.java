import com.sun.source.tree.ArrayAccessTree;
import com.sun.source.tree.AssignmentTree;
import com.sun.source.tree.BinaryTree;
import com.sun.source.tree.BlockTree;
import com.sun.source.tree.ClassTree;
import com.sun.source.tree.ExpressionStatementTree;
import com.sun.source.tree.ForLoopTree;
import com.sun.source.tree.IdentifierTree;
import com.sun.source.tree.MemberSelectTree;
import com.sun.source.tree.MethodTree;
import com.sun.source.tree.NewClassTree;
import com.sun.source.tree.Tree;
import com.sun.source.tree.UnaryTree;
import com.sun.source.tree.VariableTree;
import com.sun.source.util.TreePath;
import com.sun.source.util.TreePathScanner;
import java.io.IOException;
import java.util.Set;
import javax.lang.model.element.Element;
import javax.lang.model.element.ElementKind;
import javax.lang.model.element.Modifier;
import javax.lang.model.type.ArrayType;
import javax.lang.model.type.DeclaredType;
import javax.lang.model.type.TypeKind;
import javax.lang.model.type.TypeMirror;

/**
 * The rules of ../shared/LANGUAGE.md that the class's own file shows, rule by rule (1: FaceTest, 7: EveryNumberTest,
 * 8 and the depth of 11: DepthTest). Where the class uses less than a rule leaves, less is what is asked for.
 */
public final class LanguageTest {
    private static final Due due = new Due();
    private static final Set<String> NUMBERS = Set.of("int", "long", "short", "byte", "char");
    private static final Set<String> LIBRARY = Set.of(
        "java.lang.Math.floorMod", "java.lang.Math.floorDiv", "java.lang.Math.max", "java.lang.Math.min",
        "java.lang.Math.abs", "java.lang.System.arraycopy", "java.lang.Long.MIN_VALUE", "java.lang.Long.MAX_VALUE",
        "java.lang.Integer.MIN_VALUE", "java.lang.Integer.MAX_VALUE", "java.lang.Math", "java.lang.System",
        "java.lang.Long", "java.lang.Integer");
    private static final Set<ElementKind> LOCAL = Set.of(ElementKind.LOCAL_VARIABLE, ElementKind.PARAMETER);
    private static final int LONGEST = 60;
    private static final int MOST_CLASSES = 12;
    private static final int MOST_FIELDS = 20;
    private static Source source;

    public static void main(String[] args) throws IOException {
        source = new Source();
        rule2ClassesInside();
        rule3Types();
        rule4Library();
        rule5StaticFields();
        rule5NeverChanged();
        rule6Words();
        rule6Comparisons();
        rule9Loops();
        rule10Joining();
        rule11Sizes();
        rule12Objects();
        due.end("LanguageTest");
    }

    private static void holds(String what, TreePath path, boolean held) {
        due.same(what + ", line " + source.line(path), held ? 1 : 0, 1);
    }

    private static void none(String what, Tree.Kind... kinds) {
        for (TreePath path : source.of(kinds)) {
            holds(what, path, false);
        }
        due.same(what, source.of(kinds).size(), 0);
    }

    private static void rule2ClassesInside() {
        due.same("2: one class outside", source.unit().getTypeDecls().size(), 1);
        due.same("2: no package, no import", source.unit().getImports().size() + (source.unit().getPackage() == null ? 0 : 1), 0);
        for (TreePath path : source.of(Tree.Kind.CLASS)) {
            ClassTree its = (ClassTree) path.getLeaf();
            boolean outside = path.getParentPath().getLeaf() == source.unit();
            boolean inside = !outside && path.getParentPath().getParentPath().getLeaf() == source.unit();
            holds("2: static inside, none deeper", path, outside || inside && its.getModifiers().getFlags().contains(Modifier.STATIC));
        }
        for (TreePath path : source.of(Tree.Kind.NEW_CLASS)) {
            holds("2: no anonymous class", path, ((NewClassTree) path.getLeaf()).getClassBody() == null);
        }
        none("2: no lambda, no method reference", Tree.Kind.LAMBDA_EXPRESSION, Tree.Kind.MEMBER_REFERENCE);
        none("2: no annotation", Tree.Kind.ANNOTATION, Tree.Kind.ANNOTATION_TYPE);
    }

    private static boolean isOwnClass(TypeMirror type) {
        return type.getKind() == TypeKind.DECLARED && Source.isOwn(((DeclaredType) type).asElement());
    }

    private static boolean isNumber(TypeMirror type) {
        return NUMBERS.contains(type.toString());
    }

    private static boolean isAllowed(TypeMirror type) {
        if (type.getKind() == TypeKind.ARRAY) {
            TypeMirror of = ((ArrayType) type).getComponentType();
            boolean two = of.getKind() == TypeKind.ARRAY && isNumber(((ArrayType) of).getComponentType());
            return two || isNumber(of) || of.getKind() == TypeKind.BOOLEAN || isOwnClass(of);
        }
        return isNumber(type) || type.getKind() == TypeKind.BOOLEAN || isOwnClass(type);
    }

    private static void rule3Types() {
        for (TreePath path : source.of(Tree.Kind.VARIABLE, Tree.Kind.NEW_ARRAY, Tree.Kind.NEW_CLASS, Tree.Kind.TYPE_CAST)) {
            holds("3: type " + source.type(path), path, isAllowed(source.type(path)));
        }
        for (TreePath path : source.of(Tree.Kind.METHOD)) {
            Tree answer = ((MethodTree) path.getLeaf()).getReturnType();
            TypeMirror type = answer == null ? null : source.type(path, answer);
            holds("3: answers " + type, path, type == null || type.getKind() == TypeKind.VOID || isAllowed(type));
        }
        none("3: no float, no double", Tree.Kind.FLOAT_LITERAL, Tree.Kind.DOUBLE_LITERAL);
    }

    private static String whole(Element element) {
        boolean member = element.getKind().isField() || element.getKind() == ElementKind.METHOD;
        return (member ? element.getEnclosingElement() + "." : "") + (member ? element.getSimpleName() : element.toString());
    }

    /** Each name in the file is the class's own, the length of an array, or stands in the list of the library. */
    private static void rule4Library() {
        for (TreePath path : source.of(Tree.Kind.IDENTIFIER, Tree.Kind.MEMBER_SELECT)) {
            Element element = source.named(path);
            String name = path.getLeaf().toString();
            boolean ofArray = path.getLeaf() instanceof MemberSelectTree && name.endsWith(".length");
            boolean local = element != null && LOCAL.contains(element.getKind());
            boolean own = element != null && Source.isOwn(element);
            holds("4: " + name, path, own || local || ofArray || element != null && LIBRARY.contains(whole(element)));
        }
    }

    private static boolean isStaticArray(Element element) {
        return element != null && element.getKind() == ElementKind.FIELD
            && element.getModifiers().contains(Modifier.STATIC) && element.asType().getKind() == TypeKind.ARRAY;
    }

    private static void rule5StaticFields() {
        for (TreePath path : source.of(Tree.Kind.VARIABLE)) {
            Element element = source.named(path);
            if (element.getKind() != ElementKind.FIELD || !element.getModifiers().contains(Modifier.STATIC)) {
                continue;
            }
            VariableTree its = (VariableTree) path.getLeaf();
            boolean constant = ((javax.lang.model.element.VariableElement) element).getConstantValue() != null;
            boolean row = Set.of("int[]", "long[]", "char[]", "byte[]").contains(element.asType().toString())
                && its.getInitializer().getKind() == Tree.Kind.NEW_ARRAY && its.getInitializer().toString().matches("\\{[-\\d, ]+\\}");
            holds("5: final " + its.getName(), path, element.getModifiers().contains(Modifier.FINAL));
            holds("5: a constant or written out " + its.getName(), path, constant || row);
        }
        for (TreePath path : source.of(Tree.Kind.BLOCK)) {
            boolean ofClass = path.getParentPath().getLeaf() instanceof ClassTree;
            holds("5: no block of a class", path, !ofClass && !((BlockTree) path.getLeaf()).isStatic());
        }
    }

    /** A row that is static is asked for one place or its length, and no place of it is changed. */
    private static void rule5NeverChanged() {
        for (TreePath path : source.of(Tree.Kind.IDENTIFIER, Tree.Kind.MEMBER_SELECT)) {
            if (!isStaticArray(source.named(path))) {
                continue;
            }
            TreePath place = path.getParentPath();
            boolean asked = place.getLeaf() instanceof ArrayAccessTree
                && ((ArrayAccessTree) place.getLeaf()).getExpression() == path.getLeaf();
            boolean length = place.getLeaf().toString().equals(path.getLeaf() + ".length");
            holds("5: one place of " + path.getLeaf(), path, asked || length);
            holds("5: stays " + path.getLeaf(), path, !isChanged(place));
        }
    }

    private static boolean isChanged(TreePath path) {
        Tree around = path.getParentPath().getLeaf();
        boolean laid = around instanceof AssignmentTree && ((AssignmentTree) around).getVariable() == path.getLeaf();
        boolean counted = around instanceof UnaryTree && changes(around.getKind());
        return laid || counted || around.getKind().name().endsWith("_ASSIGNMENT");
    }

    private static boolean changes(Tree.Kind kind) {
        return Set.of(Tree.Kind.POSTFIX_INCREMENT, Tree.Kind.PREFIX_INCREMENT, Tree.Kind.POSTFIX_DECREMENT,
            Tree.Kind.PREFIX_DECREMENT).contains(kind);
    }

    private static void rule6Words() {
        none("6: no throw, try, catch", Tree.Kind.THROW, Tree.Kind.TRY, Tree.Kind.CATCH);
        none("6: no synchronized, assert", Tree.Kind.SYNCHRONIZED, Tree.Kind.ASSERT);
        none("6: no instanceof", Tree.Kind.INSTANCE_OF);
        for (TreePath path : source.of(Tree.Kind.TYPE_CAST)) {
            holds("6: a cast among numbers alone", path, isNumber(source.type(path)));
        }
        for (TreePath path : source.of(Tree.Kind.METHOD)) {
            MethodTree its = (MethodTree) path.getLeaf();
            holds("6: " + its.getName(), path, !its.getName().toString().matches("equals|hashCode|toString|finalize|clone"));
            holds("6: tells no throws", path, its.getThrows().isEmpty());
            holds("6: not synchronized, not native", path, !its.getModifiers().toString().matches(".*(synchronized|native).*"));
        }
    }

    private static void rule6Comparisons() {
        for (TreePath path : source.of(Tree.Kind.EQUAL_TO, Tree.Kind.NOT_EQUAL_TO)) {
            BinaryTree its = (BinaryTree) path.getLeaf();
            TypeMirror left = source.type(path, its.getLeftOperand());
            TypeMirror right = source.type(path, its.getRightOperand());
            holds("6: of numbers " + its, path, left.getKind().isPrimitive() && right.getKind().isPrimitive());
        }
    }

    /** Each loop counts one number up or down by one, against a bound, and does not change it otherwise. */
    private static void rule9Loops() {
        none("9: counted loops alone", Tree.Kind.WHILE_LOOP, Tree.Kind.DO_WHILE_LOOP, Tree.Kind.ENHANCED_FOR_LOOP);
        for (TreePath path : source.of(Tree.Kind.FOR_LOOP)) {
            ForLoopTree its = (ForLoopTree) path.getLeaf();
            due.same("9: one step, line " + source.line(path), its.getUpdate().size(), 1);
            for (ExpressionStatementTree step : its.getUpdate()) {
                boolean counted = step.getExpression() instanceof UnaryTree && changes(step.getExpression().getKind());
                holds("9: by one", path, counted);
                String counter = counted ? ((UnaryTree) step.getExpression()).getExpression().toString() : "?";
                boolean up = step.toString().contains("++");
                String bound = up ? "^" + counter + " <=? .*" : "^" + counter + " >=? .*";
                holds("9: against a bound " + counter, path, plain(its.getCondition()).matches(bound));
                due.same("9: changed by the step alone, line " + source.line(path), timesChanged(path, counter), 1);
            }
        }
    }

    private static String plain(Tree condition) {
        String text = condition == null ? "" : condition.toString();
        return text.startsWith("(") ? text.substring(1) : text;
    }

    private static int timesChanged(TreePath loop, String counter) {
        int[] times = {0};
        new TreePathScanner<Void, Void>() {
            @Override
            public Void scan(Tree tree, Void none) {
                if (tree instanceof IdentifierTree && tree.toString().equals(counter)
                    && isChanged(new TreePath(getCurrentPath(), tree))) {
                    times[0]++;
                }
                return super.scan(tree, none);
            }
        }.scan(loop, null);
        return times[0];
    }

    private static void rule10Joining() {
        for (TreePath path : source.of(Tree.Kind.PLUS, Tree.Kind.PLUS_ASSIGNMENT)) {
            holds("10: no text is joined by +", path, source.type(path).getKind().isPrimitive());
        }
        none("10: no text", Tree.Kind.STRING_LITERAL);
    }

    private static void rule11Sizes() {
        due.same("11: classes", Math.max(source.of(Tree.Kind.CLASS).size(), MOST_CLASSES), MOST_CLASSES);
        for (TreePath path : source.of(Tree.Kind.METHOD)) {
            MethodTree its = (MethodTree) path.getLeaf();
            due.same("11: parameters of " + its.getName(), Math.max(its.getParameters().size(), 7), 7);
            due.same("11: lines of " + its.getName(), Math.max(source.lines(path), LONGEST), LONGEST);
        }
        for (TreePath path : source.of(Tree.Kind.CLASS)) {
            int fields = 0;
            for (Tree member : ((ClassTree) path.getLeaf()).getMembers()) {
                boolean own = member instanceof VariableTree
                    && !((VariableTree) member).getModifiers().getFlags().contains(Modifier.STATIC);
                fields += own ? 1 : 0;
            }
            due.same("11: fields of the class at line " + source.line(path), Math.max(fields, MOST_FIELDS), MOST_FIELDS);
        }
    }

    /** All objects and rows are made with the object: none in a method, none by clone or copy. */
    private static void rule12Objects() {
        for (TreePath path : source.of(Tree.Kind.NEW_CLASS, Tree.Kind.NEW_ARRAY)) {
            TreePath method = Source.methodOf(path);
            boolean withObject = method == null || ((MethodTree) method.getLeaf()).getReturnType() == null;
            holds("12: made with the object", path, withObject);
        }
        for (TreePath path : source.of(Tree.Kind.METHOD)) {
            MethodTree its = (MethodTree) path.getLeaf();
            if (its.getReturnType() == null) {
                String body = its.getBody().toString();
                holds("12: a constructor calls no method", path, !body.replace("super();", "").contains("("));
                holds("12: and hands out nothing of itself", path, !body.contains("this"));
            }
        }
    }
}
