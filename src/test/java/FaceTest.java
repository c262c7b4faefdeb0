import java.io.IOException;
import java.lang.reflect.Constructor;
import java.lang.reflect.Field;
import java.lang.reflect.Method;
import java.lang.reflect.Modifier;
import java.nio.file.Files;
import java.nio.file.Path;
import java.util.Set;
import java.util.TreeSet;

/** The face: the members of the document and no others that can be seen from outside. */
public final class FaceTest {
    private static final String I = "IndexOutOfBoundsException";
    private static final String A = "IllegalArgumentException";
    private static final String S = "IllegalStateException";

    private static final String[] METHODS = {
        "int current(int,int) " + I + " " + A, "int arrive(int,int) " + I + " " + A + " " + S,
        "int load(int) " + I + " " + S, "int unload()", "int cross() " + S, "int pass(int) " + A,
        "int draw(int) " + A + " " + S, "int set(int,int) " + I + " " + A, "int append(int) " + A + " " + S,
        "int clearBuffer()", "int firstError()", "int obey() " + A, "int keep()", "int goBack() " + S,
        "int undo() " + S, "int section(int,int) " + I + " " + A, "int waiting(int,int) " + I + " " + A,
        "int deck(int,int,int) " + I + " " + A, "int count(int) " + A, "int currentOf(int) " + I,
        "int setting(int) " + I, "int why()", "int weakest()", "int ifLoaded(int) " + I, "int bestHour()",
        "int leastList(int) " + A, "int lasts()", "int needed()", "float wornShare()",
        "double carriedShare()", "long digest()",
    };

    public static void main(String[] args) throws IOException {
        Class<?> face = CableFerry.class;
        Check.due("public and final", face.getModifiers(), Modifier.PUBLIC | Modifier.FINAL);
        fields(face);
        constructors(face);
        methods(face);
        classesInside(face);
        linesOfTheDocument();
        Check.end();
    }

    private static void fields(Class<?> face) {
        for (Field field : face.getDeclaredFields()) {
            if (field.getName().equals("NONE")) {
                Check.due("NONE", field.getModifiers(), Modifier.PUBLIC | Modifier.STATIC | Modifier.FINAL);
            } else {
                Check.due(field + " is private", field.getModifiers() & Modifier.PRIVATE, Modifier.PRIVATE);
            }
            if (Modifier.isStatic(field.getModifiers())) {
                Check.due(field + " is final", field.getModifiers() & Modifier.FINAL, Modifier.FINAL);
            }
        }
        Check.due("NONE", CableFerry.NONE, -1);
    }

    private static void constructors(Class<?> face) {
        Constructor<?>[] made = face.getDeclaredConstructors();
        Check.due("constructors", made.length, 1);
        Check.dueText("the constructor", made[0].toString(), "public CableFerry()");
    }

    private static void methods(Class<?> face) {
        Set<String> seen = new TreeSet<>();
        Set<String> names = new TreeSet<>();
        for (Method method : face.getDeclaredMethods()) {
            if (Modifier.isPublic(method.getModifiers())) {
                Check.due(method + " is public alone", method.getModifiers(), Modifier.PUBLIC);
                seen.add(told(method));
                names.add(method.getName());
            }
        }
        Check.dueText("methods", seen.toString(), new TreeSet<>(Set.of(METHODS)).toString());
        for (Method method : face.getDeclaredMethods()) {
            if (!Modifier.isPublic(method.getModifiers())) {
                Check.due(method + " is private", method.getModifiers() & Modifier.PRIVATE, Modifier.PRIVATE);
                Check.due(method + " bears a public name", names.contains(method.getName()) ? 1 : 0, 0);
            }
        }
    }

    private static String told(Method method) {
        StringBuilder told = new StringBuilder();
        told.append(method.getReturnType()).append(' ').append(method.getName()).append('(');
        for (Class<?> type : method.getParameterTypes()) {
            told.append(told.charAt(told.length() - 1) == '(' ? "" : ",").append(type);
        }
        told.append(')');
        for (Class<?> type : method.getExceptionTypes()) {
            told.append(' ').append(type.getSimpleName());
        }
        return told.toString();
    }

    private static void classesInside(Class<?> face) {
        for (Class<?> inside : face.getDeclaredClasses()) {
            int seen = inside.getModifiers() & (Modifier.PUBLIC | Modifier.PROTECTED);
            Check.due(inside + " is seen from outside", seen, 0);
            Check.due(inside + " is static", inside.getModifiers() & Modifier.STATIC, Modifier.STATIC);
        }
    }

    /** Each line of the document's face stands in the source, with its names and the order of its throws clause. */
    private static void linesOfTheDocument() throws IOException {
        String source = Files.readString(Path.of("src/main/java/CableFerry.java")).replaceAll("\\s+", " ");
        int lines = 0;
        for (String line : Files.readAllLines(Path.of("../shared/DOC.md"))) {
            String text = line.strip();
            if (text.startsWith("public ")) {
                lines++;
                String due = text.endsWith(");") || text.contains(" throws ") ? text.replace(";", " {") : text;
                Check.due(text + " stands in the source", source.contains(due) ? 1 : 0, 1);
            }
        }
        Check.due("lines of the face", lines, METHODS.length + 3);
    }
}
