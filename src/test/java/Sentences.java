import java.io.IOException;
import java.nio.file.Files;
import java.nio.file.Path;
import java.util.LinkedHashSet;
import java.util.Set;

/**
 * The sentences of the document, each told word by word beside the test of it, so that a fault leads
 * to its sentence and a sentence to its test. end() compares them with ../shared/DOC.md: it tells of
 * a sentence there that has no test here, and of one here that is not there.
 */
final class Sentences {
    private static final Path DOCUMENT = Path.of("../shared/DOC.md");
    private static final Set<String> TOLD = new LinkedHashSet<>();
    private static String section = "";

    private Sentences() {
    }

    static void section(String heading) {
        section = heading;
    }

    static void holds(String sentence, Runnable test) {
        add(sentence);
        Check.about(section + ": " + sentence + "\n    ");
        try {
            test.run();
        } catch (RuntimeException e) {
            Check.tell("the test ended with " + e);
        }
        Check.about("");
    }

    /** A heading, or a sentence that says nothing a test could look at. */
    static void noBoundary(String sentence) {
        add(sentence);
    }

    private static void add(String sentence) {
        if (!TOLD.add(section + ": " + sentence)) {
            Check.tell("told twice: " + section + ": " + sentence);
        }
    }

    static void end() throws IOException {
        Set<String> due = ofDocument();
        for (String sentence : due) {
            if (!TOLD.contains(sentence)) {
                Check.tell("has no test: " + sentence);
            }
        }
        for (String sentence : TOLD) {
            if (!due.contains(sentence)) {
                Check.tell("not in the document: " + sentence);
            }
        }
    }

    private static Set<String> ofDocument() throws IOException {
        Set<String> sentences = new LinkedHashSet<>();
        String heading = "";
        boolean isCode = false;
        for (String line : Files.readAllLines(DOCUMENT)) {
            String text = line.strip();
            if (text.startsWith("```")) {
                isCode = !isCode;
            } else if (text.startsWith("#")) {
                heading = text.replaceFirst("^#+ ", "");
            } else if (!isCode && !text.isEmpty()) {
                for (String sentence : withoutFace(text).split("(?<=\\.) ")) {
                    sentences.add(heading + ": " + sentence);
                }
            }
        }
        return sentences;
    }

    /** A promise's first line tells its call of the face, which FaceTest looks at. */
    private static String withoutFace(String text) {
        return text.replaceFirst("^`[^`]*`: ", "");
    }
}
