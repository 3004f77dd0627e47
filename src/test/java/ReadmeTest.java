import java.io.File;
import java.lang.reflect.Method;
import java.lang.reflect.Modifier;
import java.nio.charset.StandardCharsets;
import java.nio.file.Files;
import java.nio.file.Path;
import java.util.HashMap;
import java.util.Map;
import java.util.regex.Matcher;
import java.util.regex.Pattern;

/** README.md: each call that it shows answers what stands behind it there, and it names all that it is to name. */
public final class ReadmeTest {
    private static final Pattern BLOCK = Pattern.compile("(?s)```java\n(.*?)```");
    private static final Pattern LINE =
        Pattern.compile("(?:int (\\w+) = )?x\\.(\\w+)\\(([^)]*)\\); +// (-?\\d+|[A-Z]+)(?:: .*)?");

    private static HearsaySeeds x = null;
    private static final Map<String, Integer> NUMBERS = new HashMap<>();
    private static int shown = 0;

    private static int number(String word) throws ReflectiveOperationException {
        if (NUMBERS.containsKey(word)) {
            return NUMBERS.get(word);
        }
        String constant = word.replace("HearsaySeeds.", "");
        return constant.matches("[A-Z]+") ? HearsaySeeds.class.getField(constant).getInt(null) : Integer.decode(word);
    }

    private static int answer(String name, String taken) throws ReflectiveOperationException {
        String[] words = taken.isEmpty() ? new String[0] : taken.split(", ");
        Class<?>[] types = new Class<?>[words.length];
        Object[] values = new Object[words.length];
        for (int i = 0; i < words.length; i++) {
            types[i] = int.class;
            values[i] = number(words[i]);
        }
        return (Integer) HearsaySeeds.class.getMethod(name, types).invoke(x, values);
    }

    private static void line(String line) throws ReflectiveOperationException {
        if (line.equals("HearsaySeeds x = new HearsaySeeds();")) {
            x = new HearsaySeeds();
            NUMBERS.clear();
            return;
        }
        Matcher m = LINE.matcher(line);
        if (!m.matches() || x == null) {
            Due.holds("a call with its answer: " + line, false);
            return;
        }
        int got = answer(m.group(2), m.group(3));
        Due.due(line, got, number(m.group(4)));
        shown++;
        if (m.group(1) != null) {
            NUMBERS.put(m.group(1), got);
        }
    }

    private static void examples(String readme) throws ReflectiveOperationException {
        Matcher block = BLOCK.matcher(readme);
        while (block.find()) {
            for (String line : block.group(1).split("\n")) {
                if (!line.isBlank()) {
                    line(line);
                }
            }
        }
        Due.holds("calls are shown", shown > 40);
    }

    private static void namesEveryCall(String readme) {
        for (Method m : HearsaySeeds.class.getDeclaredMethods()) {
            if (Modifier.isPublic(m.getModifiers())) {
                Due.holds("it names the call " + m.getName(), readme.contains("`" + m.getName() + "`"));
            }
        }
    }

    private static void namesEveryTest(String readme) {
        File[] files = new File("src/test/java").listFiles();
        Due.holds("there are tests", files != null && files.length > 0);
        for (File file : files == null ? new File[0] : files) {
            String name = file.getName().replace(".java", "");
            Due.holds("it names " + name, readme.contains("`" + name + "`"));
        }
    }

    public static void main(String[] args) throws Exception {
        String readme = Files.readString(Path.of("README.md"), StandardCharsets.UTF_8);
        examples(readme);
        namesEveryCall(readme);
        namesEveryTest(readme);
        Due.finish();
    }
}
