import java.lang.reflect.Field;
import java.lang.reflect.Method;
import java.lang.reflect.Modifier;
import java.nio.charset.StandardCharsets;
import java.nio.file.Files;
import java.nio.file.Path;
import java.util.ArrayDeque;
import java.util.ArrayList;
import java.util.Deque;
import java.util.List;
import java.util.Map;
import java.util.Set;
import java.util.TreeMap;
import java.util.TreeSet;
import java.util.regex.Matcher;
import java.util.regex.Pattern;

/** Those rules of LANGUAGE.md that can be seen from the class and from its source. */
public final class RulesTest {
    private static final Path SOURCE = Path.of("src/main/java/HearsaySeeds.java");
    private static final int MOST_CLASSES = 12, MOST_FIELDS = 20, MOST_TAKEN = 7, MOST_LINES = 60, MOST_DEEP = 8;

    /** The source without comments, and without what stands in texts and signs. */
    private static String bare(String source) {
        return source.replaceAll("(?s)/\\*.*?\\*/", "").replaceAll("//[^\n]*", "").replaceAll("\"[^\"\n]*\"", "\"\"")
            .replaceAll("'(\\\\.|[^'\\\\])'", "' '");
    }

    private static List<Class<?>> classes() {
        List<Class<?>> all = new ArrayList<>(List.of(HearsaySeeds.class.getDeclaredClasses()));
        all.add(HearsaySeeds.class);
        return all;
    }

    private static void rule1() {
        Set<String> open = new TreeSet<>();
        for (Method m : HearsaySeeds.class.getDeclaredMethods()) {
            if (Modifier.isPublic(m.getModifiers())) {
                open.add(m.getName());
            }
        }
        for (Class<?> c : classes()) {
            for (Method m : c.getDeclaredMethods()) {
                boolean ofTheFace = c == HearsaySeeds.class && Modifier.isPublic(m.getModifiers());
                Due.holds("rule 1: not the name of a public one: " + m, ofTheFace || !open.contains(m.getName()));
            }
        }
    }

    private static void rule2(String code) {
        for (Class<?> c : classes()) {
            boolean inside = c != HearsaySeeds.class;
            Due.holds("rule 2: static, not public: " + c, !inside
                || Modifier.isStatic(c.getModifiers()) && !Modifier.isPublic(c.getModifiers()));
        }
        for (String sign : List.of("->", "::", "@")) {
            Due.holds("rule 2: no " + sign, !code.contains(sign));
        }
    }

    private static void rules4And6And13(String code) {
        for (String word : List.of("throw", "throws", "try", "catch", "finally", "synchronized", "assert", "import",
                "package", "protected", "var", "transient", "volatile", "native", "instanceof", "equals", "hashCode",
                "toString", "Object", "double", "Random", "Thread", "NaN")) {
            Due.holds("no word " + word, !Pattern.compile("\\b" + word + "\\b").matcher(code).find());
        }
        Matcher library = Pattern.compile("\\b(Math|Integer|Long|Arrays|System)\\.(\\w+)").matcher(code);
        Set<String> fine = Set.of("Math.min", "Math.max", "Math.abs", "Integer.bitCount", "System.arraycopy");
        while (library.find()) {
            Due.holds("rule 4: " + library.group(), fine.contains(library.group()));
        }
    }

    private static void rule5() {
        Set<Class<?>> fine = Set.of(int.class, long.class, boolean.class, char.class, String.class, int[].class,
            long[].class, char[].class, byte[].class);
        for (Class<?> c : classes()) {
            for (Field f : c.getDeclaredFields()) {
                if (Modifier.isStatic(f.getModifiers())) {
                    Due.holds("rule 5: final: " + f, Modifier.isFinal(f.getModifiers()));
                    Due.holds("rule 5: of a fine type: " + f, fine.contains(f.getType()));
                }
            }
        }
    }

    /** A divisor is a constant that is not 0, or is held against 0 in the same line. */
    private static void rule7(String code) {
        for (String line : code.split("\n")) {
            Matcher m = Pattern.compile(" [/%]=? (\\(?\\w+)").matcher(line);
            while (m.find()) {
                boolean constant = m.group(1).matches("\\(?[A-Z_]+|[1-9]\\d*");
                Due.holds("rule 7: a divisor is looked at:" + line, constant || line.contains(m.group(1) + " == 0 ?"));
            }
        }
    }

    /** A loop's end is a counter against a bound, in the loop's own line. */
    private static void rule9(String code) {
        Pattern counted = Pattern.compile(
            "for \\(int (\\w+) = [^;]+; \\1 (<|<=|>=) [^;]+; \\1(\\+\\+| -= [1-9]\\d*)\\) \\{");
        Pattern bounded = Pattern.compile("while \\(\\w+ [<>] \\w+ && .*\\) \\{");
        int loops = 0;
        for (String line : code.split("\n")) {
            Due.holds("rule 9: no do:" + line, !line.matches(".*\\bdo\\b.*"));
            if (line.matches(".*\\b(for|while)\\b.*")) {
                loops++;
                String loop = line.strip();
                Due.holds("rule 9: " + loop, counted.matcher(loop).matches() || bounded.matcher(loop).matches());
            }
        }
        Due.holds("loops were seen", loops > 40);
    }

    /** Each method by its name, with all that is written in it; methods of one name are taken as one. */
    private static Map<String, String> methods(String code) {
        Map<String, String> methods = new TreeMap<>();
        String[] lines = code.split("\n");
        Pattern head = Pattern.compile("^( {4}| {8})(?:\\w+ )*?(?:[\\w\\[\\]]+ )?(\\w+)\\([^()]*\\) \\{$");
        for (int i = 0; i < lines.length; i++) {
            Matcher m = head.matcher(lines[i]);
            if (m.find() && !Set.of("if", "for", "while", "switch").contains(m.group(2))) {
                StringBuilder body = new StringBuilder();
                int end = i + 1;
                while (!lines[end].equals(m.group(1) + "}")) {
                    body.append(lines[end]).append('\n');
                    end++;
                }
                Due.holds("rule 11: some sixty lines:" + lines[i], end - i < MOST_LINES);
                methods.merge(m.group(2), body.toString(), String::concat);
            }
        }
        for (Class<?> c : classes()) {
            for (Method m : c.getDeclaredMethods()) {
                Due.holds("this method was seen in the source: " + m, methods.containsKey(m.getName()));
            }
        }
        return methods;
    }

    private static int depthOf(String name, Map<String, String> methods, Deque<String> open) {
        if (open.contains(name)) {
            Due.holds("rule 8: no method calls itself: " + open + ", " + name, false);
            return MOST_DEEP;
        }
        open.push(name);
        int deepest = 0;
        Matcher m = Pattern.compile("\\b(\\w+)\\(").matcher(methods.get(name));
        while (m.find()) {
            if (methods.containsKey(m.group(1))) {
                deepest = Math.max(deepest, depthOf(m.group(1), methods, open));
            }
        }
        open.pop();
        return deepest + 1;
    }

    private static void rules8And11(String code) {
        Due.holds("rule 11: some twelve classes", classes().size() <= MOST_CLASSES);
        for (Class<?> c : classes()) {
            int fields = 0;
            for (Field f : c.getDeclaredFields()) {
                fields += Modifier.isStatic(f.getModifiers()) ? 0 : 1;
            }
            Due.holds("rule 11: some twenty fields: " + c, fields <= MOST_FIELDS);
            for (Method m : c.getDeclaredMethods()) {
                Due.holds("rule 11: seven parameters: " + m, m.getParameterCount() <= MOST_TAKEN);
            }
        }
        Map<String, String> methods = methods(code);
        for (String name : methods.keySet()) {
            int depth = depthOf(name, methods, new ArrayDeque<>());
            Due.holds("rule 11: eight deep: " + name + " " + depth, depth <= MOST_DEEP);
        }
    }

    /** Objects are made where an object is made, and nowhere else: so a run's room is its objects' alone. */
    private static void rule12(String code) {
        for (Map.Entry<String, String> method : methods(code).entrySet()) {
            boolean makes = method.getValue().matches("(?s).*\\bnew\\b.*");
            boolean constructor = Character.isUpperCase(method.getKey().charAt(0));
            Due.holds("rule 12: makes nothing: " + method.getKey(), constructor || !makes);
        }
    }

    public static void main(String[] args) throws Exception {
        String source = Files.readString(SOURCE, StandardCharsets.UTF_8);
        for (int i = 0; i < source.length(); i++) {
            Due.holds("rule 4: signs 1 to 127", source.charAt(i) > 0 && source.charAt(i) < 128);
        }
        String code = bare(source);
        rule1();
        rule2(code);
        rules4And6And13(code);
        rule5();
        rule7(code);
        rule9(code);
        rules8And11(code);
        rule12(code);
        Due.finish();
    }
}
