import java.io.IOException;
import java.nio.file.Files;
import java.nio.file.Path;
import java.util.regex.Matcher;
import java.util.regex.Pattern;

/** Rules of LANGUAGE.md that a look at the source can tell. It is run in the project's folder. */
public final class LanguageTest {
    private static final String[] FORBIDDEN = {
        "\\b(import|package|try|catch|finally|synchronized|assert|protected|volatile|native|transient)\\b",
        "->|::", "\\b(System\\.(?!arraycopy)|Thread|Runtime|Random|Object|Class)\\b",
        "\\b(Float|Double|String|Character|Boolean|Short|Byte)\\.",
        "\\b(hashCode|equals|toString|getClass)\\b", "Exact\\b", "\\bstatic\\s*\\{",
        "(private|^)\\s+static\\s+(?!final)\\w+(\\[\\])?\\s+\\w+\\s*[;=]",
        "throw new (?!IllegalStateException|IllegalArgumentException|IndexOutOfBoundsException)",
        "throw new \\w+\\((?!\"[^\"]*\"\\);)", "\" *\\+|\\+ *\"",
    };

    public static void main(String[] args) throws IOException {
        String source = Files.readString(Path.of("src/main/java/CableFerry.java"));
        String code = source.replaceAll("(?s)/\\*.*?\\*/", "").replaceAll("//[^\n]*", "");
        for (String forbidden : FORBIDDEN) {
            Matcher matcher = Pattern.compile(forbidden, Pattern.MULTILINE).matcher(code);
            while (matcher.find()) {
                Check.tell("the source has \"" + matcher.group() + "\", which " + forbidden + " forbids");
            }
        }
        Check.due("signs above 127", code.chars().filter(c -> c > 127).count(), 0);
        Check.end();
    }
}
