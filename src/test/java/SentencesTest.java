import java.io.IOException;
import java.nio.charset.StandardCharsets;
import java.nio.file.DirectoryStream;
import java.nio.file.Files;
import java.nio.file.Path;
import java.util.List;
import java.util.Map;
import java.util.TreeMap;
import java.util.regex.Matcher;
import java.util.regex.Pattern;

/** No promise of the document is without a test of its boundaries, and each refusal that it names is quoted by one. */
public final class SentencesTest {
    private static final Pattern SENTENCE = Pattern.compile("sentence\\((\\d+), \"([^\"]*)\"\\)");
    private static final List<String> REFUSALS = List.of("BAD", "NO", "FULL", "NONE", "NOTHING", "KIND", "INDEX", "SIZE");

    /** All words quoted for each promise by the tests of this folder. */
    private static Map<Integer, StringBuilder> quoted() throws IOException {
        Map<Integer, StringBuilder> all = new TreeMap<>();
        try (DirectoryStream<Path> tests = Files.newDirectoryStream(Path.of("src/test/java"), "*Test.java")) {
            for (Path test : tests) {
                Matcher found = SENTENCE.matcher(Files.readString(test, StandardCharsets.UTF_8));
                while (found.find()) {
                    all.computeIfAbsent(Integer.valueOf(found.group(1)), none -> new StringBuilder())
                        .append(found.group(2)).append('\n');
                }
            }
        }
        return all;
    }

    private static boolean names(String words, String refusal) {
        return Pattern.compile("\\b" + refusal + "\\b").matcher(words).find();
    }

    public static void main(String[] args) throws IOException {
        Map<Integer, StringBuilder> quoted = quoted();
        for (int promise = 1; promise <= Doc.PROMISES; promise++) {
            String words = quoted.getOrDefault(promise, new StringBuilder()).toString();
            Due.holds("promise " + promise + " stands in the document", !Doc.promise(promise).isEmpty());
            Due.holds("promise " + promise + " has a sentence", !words.isEmpty());
            for (String refusal : REFUSALS) {
                Due.holds("promise " + promise + ": " + refusal + " has a sentence",
                    !names(Doc.promise(promise), refusal) || names(words, refusal));
            }
        }
        Due.holds("there is no promise beyond these", Doc.promise(Doc.PROMISES + 1).isEmpty());
        Due.finish();
    }
}
