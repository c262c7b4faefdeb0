import com.sun.source.tree.ClassTree;
import com.sun.source.tree.CompilationUnitTree;
import com.sun.source.tree.MethodTree;
import com.sun.source.tree.Tree;
import com.sun.source.util.JavacTask;
import com.sun.source.util.TreePath;
import com.sun.source.util.Trees;
import java.io.IOException;
import java.nio.file.Files;
import java.nio.file.Path;
import java.util.List;
import javax.lang.model.element.Element;
import javax.lang.model.element.ElementKind;
import javax.lang.model.type.TypeMirror;
import javax.tools.JavaCompiler;
import javax.tools.StandardJavaFileManager;
import javax.tools.ToolProvider;

/** The source of the class as the compiler reads it, with what each name in it stands for. */
final class Source {
    static final Path FILE = Path.of("src/main/java/CableFerry.java");

    private final String text;
    private final CompilationUnitTree unit;
    private final Trees trees;

    private Source(String text, CompilationUnitTree unit, Trees trees) {
        this.text = text;
        this.unit = unit;
        this.trees = trees;
    }

    static Source read() throws IOException {
        JavaCompiler compiler = ToolProvider.getSystemJavaCompiler();
        try (StandardJavaFileManager files = compiler.getStandardFileManager(null, null, null)) {
            JavacTask task = (JavacTask) compiler.getTask(null, files, null, List.of("--release", "17"), null,
                files.getJavaFileObjects(FILE));
            CompilationUnitTree unit = task.parse().iterator().next();
            task.analyze();
            return new Source(Files.readString(FILE), unit, Trees.instance(task));
        }
    }

    CompilationUnitTree unit() {
        return unit;
    }

    String withoutComments() {
        return text.replaceAll("(?s)/\\*.*?\\*/", "").replaceAll("//[^\n]*", "");
    }

    Element elementAt(TreePath path) {
        return trees.getElement(path);
    }

    TypeMirror typeAt(TreePath path) {
        return trees.getTypeMirror(path);
    }

    int linesOf(Tree tree) {
        long start = trees.getSourcePositions().getStartPosition(unit, tree);
        long end = trees.getSourcePositions().getEndPosition(unit, tree);
        return (int) (lineOf(end) - lineOf(start) + 1);
    }

    private long lineOf(long position) {
        return unit.getLineMap().getLineNumber(position);
    }

    /** Where a tree stands, for a fault. */
    String placeOf(Tree tree) {
        return "line " + lineOf(trees.getSourcePositions().getStartPosition(unit, tree)) + ": ";
    }

    static MethodTree methodAround(TreePath path) {
        for (TreePath p = path; p != null; p = p.getParentPath()) {
            if (p.getLeaf() instanceof MethodTree method) {
                return method;
            }
        }
        return null;
    }

    static ClassTree classAround(TreePath path) {
        for (TreePath p = path; p != null; p = p.getParentPath()) {
            if (p.getLeaf() instanceof ClassTree inside) {
                return inside;
            }
        }
        return null;
    }

    /** CableFerry, or a class inside it. */
    static boolean isOwn(Element type) {
        for (Element e = type; e != null; e = e.getEnclosingElement()) {
            if (e.getKind() == ElementKind.CLASS && e.getSimpleName().contentEquals("CableFerry")) {
                return true;
            }
        }
        return false;
    }
}
