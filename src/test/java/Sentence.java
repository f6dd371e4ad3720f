import java.io.IOException;
import java.nio.file.Files;
import java.nio.file.Path;
import java.util.LinkedHashMap;
import java.util.Map;

/**
 * Names the sentence of the document that the answers to come are about, and knows in the end which
 * of the document's words no test has named.
 */
final class Sentence {
    private static final Path DOCUMENT = Path.of("..", "shared", "DOC.md");
    // By heading; a word that has been named is written over with spaces in the second one.
    private static final Map<String, String> SAID = new LinkedHashMap<>();
    private static final Map<String, String> LEFT = new LinkedHashMap<>();

    private static boolean isRead = false;

    private Sentence() {
    }

    /** Where: the words in front of the heading's colon, as "Terms" or "Promise 2". */
    static void of(String where, String words) {
        Due.about(where + ": \"" + words + "\"");
        if (!isRead) {
            readDocument();
            isRead = true;
        }
        if (SAID.isEmpty()) {
            return;
        }
        String said = SAID.getOrDefault(where, "");
        int at = said.indexOf(words);
        Due.yes("the document says so", at >= 0);
        while (at >= 0) {
            StringBuilder left = new StringBuilder(LEFT.get(where));
            for (int i = at; i < at + words.length(); i++) {
                left.setCharAt(i, ' ');
            }
            LEFT.put(where, left.toString());
            at = said.indexOf(words, at + 1);
        }
    }

    /** Every word of the Terms and of the promises has been named by a test. */
    static void allNamed() {
        for (String where : LEFT.keySet()) {
            if (where.equals("Terms") || where.startsWith("Promise ")) {
                Due.about(where);
                String left = LEFT.get(where).replaceAll("\\s+", " ").trim();
                Due.yes("a test names \"" + left + "\"", left.isEmpty());
            }
        }
    }

    private static void readDocument() {
        if (!Files.isReadable(DOCUMENT)) {
            System.out.println(DOCUMENT + " is not here: the sentences are not compared with it");
            return;
        }
        try {
            for (String section : Files.readString(DOCUMENT).split("(?m)^## ")) {
                int line = section.indexOf('\n');
                if (line > 0) {
                    String body = plain(section.substring(line));
                    String where = section.substring(0, line).replaceFirst(":.*", "").trim();
                    SAID.put(where, body);
                    LEFT.put(where, body);
                }
            }
        } catch (IOException e) {
            throw new IllegalStateException(e);
        }
    }

    /** One line, without the marks of chapters and blocks and without the line that shows a call's face. */
    private static String plain(String body) {
        String words = body.replaceAll("(?m)^```.*$", " ").replaceAll("==== \\d+\\.", " ");
        return words.trim().replaceFirst("^`[^`]*\\)[^`]*`:", "").replaceAll("\\s+", " ").trim();
    }
}
