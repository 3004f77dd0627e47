import java.lang.reflect.Constructor;
import java.lang.reflect.Field;
import java.lang.reflect.Method;
import java.lang.reflect.Modifier;
import java.nio.charset.StandardCharsets;
import java.nio.file.Files;
import java.nio.file.Path;
import java.util.ArrayList;
import java.util.Arrays;
import java.util.List;
import java.util.Map;
import java.util.TreeMap;
import java.util.regex.Matcher;
import java.util.regex.Pattern;

/** The public face of the document: every constant with its value, the constructor, every method, and nothing else. */
public final class FaceTest {
    private static final Class<?> FACE = HearsaySeeds.class;
    private static final Pattern CONSTANT = Pattern.compile("([A-Z]+) = (-\\d+)");
    private static final Pattern CALL = Pattern.compile("public int (\\w+)\\(([^)]*)\\);");

    private static Map<String, Integer> constantsOfTheDocument() {
        Map<String, Integer> constants = new TreeMap<>();
        Matcher m = CONSTANT.matcher(Doc.face());
        while (m.find()) {
            constants.put(m.group(1), Integer.valueOf(m.group(2)));
        }
        return constants;
    }

    private static void constants() throws IllegalAccessException {
        Map<String, Integer> constants = new TreeMap<>();
        for (Field f : FACE.getDeclaredFields()) {
            if (!Modifier.isPrivate(f.getModifiers())) {
                Due.holds(f + " is a constant", f.getType() == int.class
                    && (f.getModifiers() & (Modifier.PUBLIC | Modifier.STATIC | Modifier.FINAL))
                        == (Modifier.PUBLIC | Modifier.STATIC | Modifier.FINAL));
                constants.put(f.getName(), f.getInt(null));
            }
        }
        Due.due("the document has constants", constantsOfTheDocument().size(), 8);
        Due.holds("the constants " + constants, constants.equals(constantsOfTheDocument()));
    }

    private static List<String> callsOfTheDocument() {
        List<String> calls = new ArrayList<>();
        Matcher m = CALL.matcher(Doc.face());
        while (m.find()) {
            int takes = m.group(2).isEmpty() ? 0 : m.group(2).split(",").length;
            calls.add(m.group(1) + " " + takes);
        }
        calls.sort(null);
        return calls;
    }

    private static void calls() {
        List<String> calls = new ArrayList<>();
        for (Method m : FACE.getDeclaredMethods()) {
            if (!Modifier.isPrivate(m.getModifiers())) {
                Due.holds(m + " is public, and an object's", Modifier.isPublic(m.getModifiers())
                    && !Modifier.isStatic(m.getModifiers()));
                Due.holds(m + " answers an int", m.getReturnType() == int.class);
                Due.holds(m + " takes ints", Arrays.stream(m.getParameterTypes()).allMatch(type -> type == int.class));
                calls.add(m.getName() + " " + m.getParameterCount());
            }
        }
        calls.sort(null);
        Due.due("the document has calls, one for each promise but the first", callsOfTheDocument().size(),
            Doc.PROMISES - 1);
        Due.holds("the methods " + calls, calls.equals(callsOfTheDocument()));
    }

    /** The numbers that a call takes bear the document's names, in the document's order. */
    private static void names() throws Exception {
        String source = Files.readString(Path.of("src/main/java/HearsaySeeds.java"), StandardCharsets.UTF_8);
        Matcher m = CALL.matcher(Doc.face());
        while (m.find()) {
            String head = m.group().replace(";", " {");
            Due.holds(head, source.contains("\n    " + head + "\n"));
        }
    }

    private static void theClass() {
        Due.holds("public and final", Modifier.isPublic(FACE.getModifiers()) && Modifier.isFinal(FACE.getModifiers()));
        Due.holds("without a package", FACE.getPackageName().isEmpty());
        Constructor<?>[] made = FACE.getDeclaredConstructors();
        Due.holds("one constructor", made.length == 1 && made[0].getParameterCount() == 0
            && Modifier.isPublic(made[0].getModifiers()));
    }

    public static void main(String[] args) throws Exception {
        theClass();
        constants();
        calls();
        names();
        Due.finish();
    }
}
