import java.io.IOException;
import java.io.UncheckedIOException;
import java.nio.file.Files;
import java.nio.file.Path;
import java.util.ArrayList;
import java.util.List;

/**
 * The document, sentence by sentence: a test says the sentences in their order, word for word, each with what
 * is to hold, and at last it is seen that none was left out and none is other than in ../shared/DOC.md.
 */
final class Document {
    private static final Path FILE = Path.of("../shared/DOC.md");
    private static final int SHOWN = 80;
    private static final StringBuilder SAID = new StringBuilder();

    private Document() {
    }

    /** A sentence, or a part of one, with a test that fails if it is broken. */
    static void says(String words, Runnable test) {
        saysOnly(words);
        Checks.sentence(words, test);
    }

    /** Words that promise no answer, no exception and no change. */
    static void saysOnly(String words) {
        SAID.append(SAID.length() == 0 ? "" : " ").append(words);
    }

    /** What was said is the document from one heading up to another one, or up to its end. */
    static void isWhole(String first, String end) {
        Checks.sentence("../shared/DOC.md from '" + first + "' on", () -> compare(textBetween(first, end)));
    }

    private static void compare(String text) {
        int at = 0;
        while (at < text.length() && at < SAID.length() && text.charAt(at) == SAID.charAt(at)) {
            at++;
        }
        Checks.same("after '.." + shown(text, Math.max(0, at - SHOWN), at) + "' the test goes on",
                shown(SAID.toString(), at, at + SHOWN), shown(text, at, at + SHOWN));
    }

    private static String shown(String text, int from, int to) {
        return text.substring(Math.min(from, text.length()), Math.min(to, text.length()));
    }

    /** The lines of the public face, as Java has them. */
    static List<String> face() {
        List<String> face = new ArrayList<>();
        boolean isFace = false;
        for (String line : lines()) {
            if (line.startsWith("```")) {
                isFace = line.equals("```java");
            } else if (isFace) {
                face.add(line.trim());
            }
        }
        return face;
    }

    /** Without headings, signatures and the face, which FaceTest looks at. */
    private static String textBetween(String first, String end) {
        StringBuilder text = new StringBuilder();
        boolean isWithin = false;
        boolean isFace = false;
        for (String line : lines()) {
            if (line.startsWith("#")) {
                String heading = line.replaceFirst("^#+ *", "");
                isWithin = !heading.startsWith(end) && (isWithin || heading.startsWith(first));
            } else if (line.startsWith("```")) {
                isFace = line.equals("```java");
            } else if (isWithin && !isFace) {
                text.append(' ').append(line.replaceFirst("^`[^`]*`: ", ""));
            }
        }
        return text.toString().replaceAll("\\s+", " ").trim();
    }

    private static List<String> lines() {
        try {
            return Files.readAllLines(FILE);
        } catch (IOException e) {
            throw new UncheckedIOException(e);
        }
    }
}
