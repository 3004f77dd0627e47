import java.io.IOException;
import java.io.UncheckedIOException;
import java.nio.charset.StandardCharsets;
import java.nio.file.Files;
import java.nio.file.Path;

/** The document, cut into its Terms and its promises, so that a test can name the words that it is a test of. */
final class Doc {
    static final int PROMISES = 45;
    private static final Path PLACE = Path.of("../shared/DOC.md");
    private static String read = null;

    private Doc() {
    }

    static String face() {
        return part("## The public face");
    }

    static String terms() {
        return part("## Terms");
    }

    static String promise(int number) {
        return part("## Promise " + number + ":");
    }

    /** Whether these words stand with that promise, or in the Terms that all promises use. */
    static boolean says(int promise, String words) {
        return promise(promise).contains(words) || terms().contains(words);
    }

    private static String part(String head) {
        int from = whole().indexOf("\n" + head);
        if (from < 0) {
            return "";
        }
        int to = whole().indexOf("\n## ", from + 1);
        return whole().substring(from, to < 0 ? whole().length() : to);
    }

    private static String whole() {
        if (read == null) {
            try {
                read = Files.readString(PLACE, StandardCharsets.UTF_8);
            } catch (IOException unread) {
                throw new UncheckedIOException(unread);
            }
        }
        return read;
    }
}
