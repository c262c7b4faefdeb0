import java.io.IOException;
import java.net.URL;
import java.net.URLClassLoader;
import java.nio.file.Files;
import java.nio.file.Path;
import java.util.regex.Matcher;
import java.util.regex.Pattern;
import javax.tools.ToolProvider;

/**
 * Compiles the Java of README.md, as one program, and looks whether each call answers the number, or
 * throws the exception, that stands behind it. It is run in the project's folder.
 */
public final class ReadmeTest {
    private static final Pattern BLOCK = Pattern.compile("(?ms)^```java\n(.*?)^```$");
    private static final Pattern ANSWERED = Pattern.compile("(ferry\\..*); +// (-?\\d+)\\b.*");
    private static final Pattern THROWN = Pattern.compile("(ferry\\..*); +// throws (\\w+).*");

    private static int looks = 0;

    public static void main(String[] args) throws IOException, ReflectiveOperationException {
        Path folder = Files.createTempDirectory("readme");
        Path program = folder.resolve("Readme.java");
        Path compiled = folder.resolve("Readme.class");
        try {
            Files.writeString(program, program());
            int exit = ToolProvider.getSystemJavaCompiler().run(null, null, null, "-cp",
                System.getProperty("java.class.path"), "-d", folder.toString(), program.toString());
            Check.due("the compiler", exit, 0);
            if (exit == 0) {
                run(folder);
            }
        } finally {
            Files.deleteIfExists(compiled);
            Files.deleteIfExists(program);
            Files.delete(folder);
        }
        Check.due("calls with an answer, at least 20", Math.min(looks, 20), 20);
        Check.end();
    }

    private static void run(Path folder) throws IOException, ReflectiveOperationException {
        try (URLClassLoader loader = new URLClassLoader(new URL[] {folder.toUri().toURL()})) {
            Object faults = loader.loadClass("Readme").getMethod("faults").invoke(null);
            if (!faults.equals("")) {
                Check.tell("README.md: " + faults);
            }
        }
    }

    private static String program() throws IOException {
        StringBuilder program = new StringBuilder("public final class Readme {\n"
            + "public static String faults() {\nString faults = \"\";\n");
        Matcher block = BLOCK.matcher(Files.readString(Path.of("README.md")));
        while (block.find()) {
            for (String line : block.group(1).split("\n")) {
                program.append(looked(line)).append('\n');
            }
        }
        return program.append("return faults;\n}\n}\n").toString();
    }

    private static String looked(String line) {
        Matcher answered = ANSWERED.matcher(line);
        if (answered.matches()) {
            looks++;
            return "{ int got = " + answered.group(1) + "; if (got != " + answered.group(2) + ") { faults += \""
                + answered.group(1) + " answered \" + got + \". \"; } }";
        }
        Matcher thrown = THROWN.matcher(line);
        if (thrown.matches()) {
            looks++;
            return "try { " + thrown.group(1) + "; faults += \"" + thrown.group(1) + " threw nothing. \"; } catch ("
                + thrown.group(2) + " e) { }";
        }
        return line;
    }
}
