import java.io.IOException;
import java.nio.file.Files;
import java.nio.file.Path;

/** ../shared/DOC.md, so that a test can tell whether the words that it names still stand there. */
final class Document {
    private static final String TEXT = read();

    private Document() {
    }

    private static String read() {
        Path path = Path.of("..", "shared", "DOC.md");
        try {
            return Files.exists(path) ? "\n" + Files.readString(path) + "\n#" : "";
        } catch (IOException e) {
            return "";
        }
    }

    /** Whether a part, told by the beginning of its heading, has these words; true of all if there is no document. */
    static boolean says(String part, String words) {
        if (TEXT.isEmpty()) {
            return true;
        }
        int heading = Math.max(TEXT.indexOf("\n## " + part), TEXT.indexOf("\n### " + part));
        if (heading < 0) {
            return false;
        }
        int end = TEXT.indexOf("\n#", heading + 1);
        return TEXT.substring(heading, end).contains(words);
    }
}
