import com.sun.source.tree.ClassTree;
import com.sun.source.tree.CompilationUnitTree;
import com.sun.source.tree.MethodTree;
import com.sun.source.tree.Tree;
import com.sun.source.util.JavacTask;
import com.sun.source.util.TreePath;
import com.sun.source.util.TreePathScanner;
import com.sun.source.util.Trees;
import java.io.IOException;
import java.util.ArrayList;
import java.util.List;
import javax.lang.model.element.Element;
import javax.lang.model.element.TypeElement;
import javax.lang.model.type.TypeMirror;
import javax.lang.model.util.Types;
import javax.tools.JavaCompiler;
import javax.tools.StandardJavaFileManager;
import javax.tools.ToolProvider;

/** The class's own file as javac reads it: all its trees, with what they name and of which types they are. */
final class Source {
    static final String FILE = "src/main/java/LevelLadders.java";
    private final CompilationUnitTree unit;
    private final Trees trees;
    private final Types types;
    private final List<TreePath> all = new ArrayList<>();

    Source() throws IOException {
        JavaCompiler compiler = ToolProvider.getSystemJavaCompiler();
        StandardJavaFileManager files = compiler.getStandardFileManager(null, null, null);
        List<String> options = List.of("-proc:none");
        JavacTask task = (JavacTask) compiler.getTask(null, files, null, options, null, files.getJavaFileObjects(FILE));
        unit = task.parse().iterator().next();
        // Gathered ahead of analyze(), which puts constructors of its own among the trees.
        new TreePathScanner<Void, Void>() {
            @Override
            public Void scan(Tree tree, Void none) {
                if (tree != null) {
                    all.add(getCurrentPath() == null ? new TreePath(unit) : new TreePath(getCurrentPath(), tree));
                }
                return super.scan(tree, none);
            }
        }.scan(new TreePath(unit), null);
        task.analyze();
        trees = Trees.instance(task);
        types = task.getTypes();
    }

    CompilationUnitTree unit() {
        return unit;
    }

    /** All places of trees of these kinds, in the order of the file. */
    List<TreePath> of(Tree.Kind... kinds) {
        List<TreePath> found = new ArrayList<>();
        for (TreePath path : all) {
            if (List.of(kinds).contains(path.getLeaf().getKind())) {
                found.add(path);
            }
        }
        return found;
    }

    Element named(TreePath path) {
        return trees.getElement(path);
    }

    TypeMirror type(TreePath path) {
        return trees.getTypeMirror(path);
    }

    TypeMirror type(TreePath path, Tree inside) {
        return trees.getTypeMirror(new TreePath(path, inside));
    }

    boolean isUnder(Element one, Element other) {
        return types.isSubtype(types.erasure(one.asType()), types.erasure(other.asType()));
    }

    long line(TreePath path) {
        return lineOf(trees.getSourcePositions().getStartPosition(unit, path.getLeaf()));
    }

    /** How many lines a tree takes. */
    long lines(TreePath path) {
        return lineOf(trees.getSourcePositions().getEndPosition(unit, path.getLeaf())) - line(path) + 1;
    }

    private long lineOf(long position) {
        return unit.getLineMap().getLineNumber(position);
    }

    /** The method in which a tree stands, null if it stands in none. */
    static TreePath methodOf(TreePath path) {
        TreePath at = path;
        while (at != null && !(at.getLeaf() instanceof MethodTree)) {
            at = at.getParentPath();
        }
        return at;
    }

    static boolean isOwn(Element element) {
        Element at = element;
        while (at != null && !(at instanceof TypeElement && at.getSimpleName().contentEquals("LevelLadders"))) {
            at = at.getEnclosingElement();
        }
        return at != null;
    }

    static boolean isField(TreePath path) {
        return path.getParentPath().getLeaf() instanceof ClassTree;
    }
}
