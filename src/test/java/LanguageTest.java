import com.sun.source.tree.ArrayAccessTree;
import com.sun.source.tree.BinaryTree;
import com.sun.source.tree.ClassTree;
import com.sun.source.tree.CompoundAssignmentTree;
import com.sun.source.tree.ExpressionTree;
import com.sun.source.tree.LiteralTree;
import com.sun.source.tree.MethodInvocationTree;
import com.sun.source.tree.MethodTree;
import com.sun.source.tree.NewArrayTree;
import com.sun.source.tree.NewClassTree;
import com.sun.source.tree.ThrowTree;
import com.sun.source.tree.Tree;
import com.sun.source.tree.TypeCastTree;
import com.sun.source.tree.VariableTree;
import com.sun.source.util.TreePath;
import com.sun.source.util.TreePathScanner;
import java.io.IOException;
import java.util.List;
import java.util.Set;
import java.util.TreeSet;
import java.util.regex.Matcher;
import java.util.regex.Pattern;
import javax.lang.model.element.Element;
import javax.lang.model.element.ElementKind;
import javax.lang.model.element.Modifier;
import javax.lang.model.element.VariableElement;
import javax.lang.model.type.TypeKind;

/**
 * Rules of LANGUAGE.md that a look at the source can tell, and the rule that nothing is made behind
 * the constructor but exceptions. It is run in the project's folder.
 */
public final class LanguageTest extends TreePathScanner<Void, Void> {
    private static final int MOST_CLASSES = 12;
    private static final int MOST_FIELDS = 20;
    private static final int MOST_PARAMETERS = 7;
    private static final int MOST_LINES = 60;
    private static final int DEEPEST_CALL = 8;

    private static final String[] FORBIDDEN = {
        "\\b(import|package|try|catch|finally|synchronized|assert|protected|volatile|native|transient)\\b",
        "->|::", "\\b(System\\.(?!arraycopy)|Thread|Runtime|Random|Object|Class)\\b",
        "\\b(hashCode|equals|toString|getClass|instanceof)\\b", "\\bstatic\\s*\\{", "\\bfor\\s*\\([^;)]*;\\s*;",
        "\\bwhile\\s*\\(\\s*true", "throw new (?!IllegalStateException|IllegalArgumentException|IndexOutOfBoundsException)",
        "throw new \\w+\\((?!\"[^\"]*\"\\);)",
    };
    // Rule 4 leaves texts and lists, too, but the class needs none.
    private static final Pattern LIBRARY = Pattern.compile("Math\\.(min|max|abs|floorDiv|floorMod)"
        + "|(Integer|Long)\\.(compare|bitCount|min|max)|System\\.arraycopy|Arrays\\.(copyOf|copyOfRange|fill)");
    private static final Pattern CONSTANT = Pattern.compile("int|long|boolean|char|java.lang.String|(int|long|char|byte)\\[\\]");
    private static final Pattern TYPE = Pattern.compile("(int|long|short|byte|char|boolean|double|float"
        + "|java.lang.String|java.lang.StringBuilder|CableFerry(\\.\\w+)*)(\\[\\])?");

    private final Source source;
    private final Calls calls = new Calls();
    private final Set<String> publicNames = new TreeSet<>();
    private final Set<String> privateNames = new TreeSet<>();
    private int classes = 0;

    private LanguageTest(Source source) {
        this.source = source;
    }

    public static void main(String[] args) throws IOException {
        Source source = Source.read();
        words(source.withoutComments());
        LanguageTest test = new LanguageTest(source);
        test.scan(source.unit(), null);
        test.whole();
        Check.end();
    }

    private static void words(String code) {
        for (String forbidden : FORBIDDEN) {
            Matcher matcher = Pattern.compile(forbidden, Pattern.MULTILINE).matcher(code);
            while (matcher.find()) {
                Check.tell("the source has \"" + matcher.group() + "\", which " + forbidden + " forbids");
            }
        }
        Check.due("signs above 127", code.chars().filter(c -> c > 127).count(), 0);
    }

    private void whole() {
        most("classes", classes, MOST_CLASSES);
        for (String name : publicNames) {
            Check.due("a private method is named " + name, privateNames.contains(name) ? 1 : 0, 0);
        }
        Check.dueText("methods that call themselves", calls.circles().toString(), "[]");
        List<String> longest = calls.longest();
        most("calls open at once, " + longest, longest.size(), DEEPEST_CALL);
    }

    private static void most(String what, int number, int most) {
        Check.due(what + ", at most " + most, Math.max(number, most), most);
    }

    private void holds(boolean isGood, Tree tree, String rule) {
        if (!isGood) {
            Check.tell(source.placeOf(tree) + rule + ": " + tree);
        }
    }

    @Override
    public Void visitClass(ClassTree tree, Void unused) {
        classes++;
        int fields = 0;
        for (Tree member : tree.getMembers()) {
            if (member.getKind() == Tree.Kind.VARIABLE) {
                fields += field((VariableTree) member);
            }
        }
        most("fields of " + tree.getSimpleName(), fields, MOST_FIELDS);
        return super.visitClass(tree, unused);
    }

    private int field(VariableTree tree) {
        Set<Modifier> flags = tree.getModifiers().getFlags();
        if (!flags.contains(Modifier.STATIC)) {
            return 1;
        }
        String type = elementOf(tree).asType().toString();
        holds(flags.contains(Modifier.FINAL) && CONSTANT.matcher(type).matches(), tree, "a static field is a constant");
        return 0;
    }

    @Override
    public Void visitMethod(MethodTree tree, Void unused) {
        most("parameters of " + tree.getName(), tree.getParameters().size(), MOST_PARAMETERS);
        most("lines of " + tree.getName(), source.linesOf(tree), MOST_LINES);
        Set<Modifier> flags = tree.getModifiers().getFlags();
        if (flags.contains(Modifier.PUBLIC)) {
            publicNames.add(tree.getName().toString());
        }
        if (flags.contains(Modifier.PRIVATE)) {
            privateNames.add(tree.getName().toString());
        }
        if (tree.getReturnType() != null && !tree.getReturnType().toString().equals("void")) {
            type(new TreePath(getCurrentPath(), tree.getReturnType()));
        }
        return super.visitMethod(tree, unused);
    }

    @Override
    public Void visitVariable(VariableTree tree, Void unused) {
        type(new TreePath(getCurrentPath(), tree.getType()));
        return super.visitVariable(tree, unused);
    }

    private void type(TreePath path) {
        String name = source.typeAt(path).toString();
        holds(TYPE.matcher(name).matches(), path.getLeaf(), "rule 3 leaves the type");
    }

    @Override
    public Void visitMethodInvocation(MethodInvocationTree tree, Void unused) {
        called(source.elementAt(getCurrentPath()), tree);
        return super.visitMethodInvocation(tree, unused);
    }

    @Override
    public Void visitNewClass(NewClassTree tree, Void unused) {
        MethodTree method = Source.methodAround(getCurrentPath());
        boolean isThrown = getCurrentPath().getParentPath().getLeaf() instanceof ThrowTree;
        holds(isThrown || isConstructor(method), tree, "an object is made in a constructor");
        if (!isThrown) {
            called(source.elementAt(getCurrentPath()), tree);
        }
        return super.visitNewClass(tree, unused);
    }

    @Override
    public Void visitNewArray(NewArrayTree tree, Void unused) {
        MethodTree method = Source.methodAround(getCurrentPath());
        holds(method == null || isConstructor(method), tree, "a row is made in a constructor");
        return super.visitNewArray(tree, unused);
    }

    @Override
    public Void visitThrow(ThrowTree tree, Void unused) {
        MethodTree method = Source.methodAround(getCurrentPath());
        holds(method != null && !isConstructor(method), tree, "no throw in a constructor");
        Set<Modifier> flags = method == null ? Set.of() : method.getModifiers().getFlags();
        holds(flags.contains(Modifier.PUBLIC), tree, "a call of the face throws by itself");
        return super.visitThrow(tree, unused);
    }

    /** The index must have been looked at, by the words "index < row.length", in the same method. */
    @Override
    public Void visitArrayAccess(ArrayAccessTree tree, Void unused) {
        MethodTree method = Source.methodAround(getCurrentPath());
        String look = tree.getIndex() + " < " + tree.getExpression() + ".length";
        holds(method != null && method.toString().contains(look), tree, "an index is looked at before it is used");
        return super.visitArrayAccess(tree, unused);
    }

    @Override
    public Void visitBinary(BinaryTree tree, Void unused) {
        if (tree.getKind() == Tree.Kind.DIVIDE || tree.getKind() == Tree.Kind.REMAINDER) {
            divisor(tree.getRightOperand());
        }
        boolean isText = source.typeAt(getCurrentPath()).toString().equals("java.lang.String");
        holds(!isText, tree, "texts are not joined by +");
        return super.visitBinary(tree, unused);
    }

    @Override
    public Void visitCompoundAssignment(CompoundAssignmentTree tree, Void unused) {
        if (tree.getKind() == Tree.Kind.DIVIDE_ASSIGNMENT || tree.getKind() == Tree.Kind.REMAINDER_ASSIGNMENT) {
            divisor(tree.getExpression());
        }
        return super.visitCompoundAssignment(tree, unused);
    }

    /** A number that is not 0, a constant, or at least 1; a double may be 0, but the tests of promise 31 tell that. */
    private void divisor(ExpressionTree tree) {
        TreePath path = new TreePath(getCurrentPath(), tree);
        Object value = tree instanceof LiteralTree literal ? literal.getValue() : null;
        if (source.elementAt(path) instanceof VariableElement named) {
            value = named.getConstantValue();
        }
        boolean isNumber = value instanceof Number number && number.doubleValue() != 0;
        boolean isDouble = source.typeAt(path).getKind() == TypeKind.DOUBLE;
        holds(isNumber || isDouble || tree.toString().startsWith("Math.max(1, "), tree, "a divisor is not 0");
    }

    @Override
    public Void visitTypeCast(TypeCastTree tree, Void unused) {
        TreePath path = new TreePath(getCurrentPath(), tree.getType());
        holds(source.typeAt(path).getKind().isPrimitive(), tree, "only numbers are cast");
        return super.visitTypeCast(tree, unused);
    }

    private void called(Element called, Tree tree) {
        String name = called.getEnclosingElement().getSimpleName() + "." + called.getSimpleName();
        if (!Source.isOwn(called)) {
            boolean isImplied = called.getKind() == ElementKind.CONSTRUCTOR;
            holds(isImplied || LIBRARY.matcher(name).matches(), tree, "rule 4 leaves the call");
            TypeKind answer = source.typeAt(getCurrentPath()).getKind();
            holds(answer != TypeKind.DOUBLE && answer != TypeKind.FLOAT, tree, "no Math on doubles and floats");
        }
        MethodTree method = Source.methodAround(getCurrentPath());
        ClassTree owner = Source.classAround(getCurrentPath());
        if (method != null && owner != null) {
            calls.add(owner.getSimpleName() + "." + method.getName(), name);
        }
    }

    private Element elementOf(Tree member) {
        return source.elementAt(new TreePath(getCurrentPath(), member));
    }

    private static boolean isConstructor(MethodTree method) {
        return method != null && method.getReturnType() == null;
    }
}
