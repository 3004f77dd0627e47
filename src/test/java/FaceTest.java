import java.lang.reflect.Constructor;
import java.lang.reflect.Field;
import java.lang.reflect.Member;
import java.lang.reflect.Method;
import java.lang.reflect.Modifier;
import java.nio.charset.StandardCharsets;
import java.nio.file.Files;
import java.nio.file.Path;
import java.util.ArrayList;
import java.util.List;
import java.util.Map;
import java.util.Set;
import java.util.TreeMap;
import java.util.TreeSet;
import java.util.regex.Matcher;
import java.util.regex.Pattern;

/** The public face of the document, and those rules of LANGUAGE.md that can be seen from outside. */
public final class FaceTest {
    private static final String CALLS = "person 3 told 2 as 2 turns 2 set 3 thought 2 lets 3 says 2 heeds 3 sow 2 field 2 "
        + "votes 2 deal 1 seed 1 weeks 1 county 1 behind 2 first 2 ear 4 fewest 3 house 3 becomes 3 like 2 fee 0 fine 1 "
        + "feed 3 trim 1 text 0 textTold 2 why 1 sheet 3 mark 3 pour 1 reads 1 copy 5 lay 3 ask 2 item 2 rest 2 tell 1 "
        + "check 1 keep 0 back 0 count 1";
    private static final String CONSTANTS = "BAD -1000000001 NO -1000000002 FULL -1000000003 NONE -1000000005 "
        + "NOTHING -1000000011 KIND -1000000012 INDEX -1000000013 SIZE -1000000014";

    private static Map<String, Integer> pairs(String text) {
        Map<String, Integer> pairs = new TreeMap<>();
        String[] words = text.split(" ");
        for (int i = 0; i < words.length; i += 2) {
            pairs.put(words[i], Integer.valueOf(words[i + 1]));
        }
        return pairs;
    }

    private static boolean open(Member m) {
        return !Modifier.isPrivate(m.getModifiers());
    }

    private static void face() throws Exception {
        Class<?> c = HearsaySeeds.class;
        Due.holds("1: public and final", Modifier.isPublic(c.getModifiers()) && Modifier.isFinal(c.getModifiers()));
        Map<String, Integer> calls = new TreeMap<>();
        Set<String> hidden = new TreeSet<>();
        for (Method m : c.getDeclaredMethods()) {
            if (open(m)) {
                calls.put(m.getName(), m.getParameterCount());
                Due.holds(m + " is public", Modifier.isPublic(m.getModifiers()) && !Modifier.isStatic(m.getModifiers()));
                Due.holds(m + " answers an int", m.getReturnType() == int.class);
                for (Class<?> type : m.getParameterTypes()) {
                    Due.holds(m + " takes ints", type == int.class);
                }
            } else {
                hidden.add(m.getName());
            }
        }
        Due.holds("the methods " + calls, calls.equals(pairs(CALLS)));
        for (String name : hidden) {
            Due.holds("rule 1: " + name, !calls.containsKey(name));
        }
        Map<String, Integer> constants = new TreeMap<>();
        for (Field f : c.getDeclaredFields()) {
            if (open(f)) {
                constants.put(f.getName(), f.getInt(null));
            }
            Due.holds("rule 5: " + f, !Modifier.isStatic(f.getModifiers()) || Modifier.isFinal(f.getModifiers()));
        }
        Due.holds("the constants " + constants, constants.equals(pairs(CONSTANTS)));
        Constructor<?>[] made = c.getDeclaredConstructors();
        Due.holds("one constructor", made.length == 1 && made[0].getParameterCount() == 0 && open(made[0]));
    }

    private static void classes() {
        List<Class<?>> all = new ArrayList<>(List.of(HearsaySeeds.class.getDeclaredClasses()));
        all.add(HearsaySeeds.class);
        Due.holds("rule 11: twelve classes", all.size() <= 12);
        for (Class<?> c : all) {
            int fields = 0;
            for (Field f : c.getDeclaredFields()) {
                fields += Modifier.isStatic(f.getModifiers()) ? 0 : 1;
                Due.holds("rule 5: " + f, !Modifier.isStatic(f.getModifiers()) || Modifier.isFinal(f.getModifiers()));
            }
            Due.holds("rule 11: fields of " + c, fields <= 20);
            for (Method m : c.getDeclaredMethods()) {
                Due.holds("rule 11: parameters of " + m, m.getParameterCount() <= 7);
                Due.holds("rule 1: " + m, c == HearsaySeeds.class || !pairs(CALLS).containsKey(m.getName()));
            }
            Due.holds("rule 2: " + c, c == HearsaySeeds.class
                || Modifier.isStatic(c.getModifiers()) && !Modifier.isPublic(c.getModifiers()));
        }
    }

    private static String bare(String source) {
        return source.replaceAll("(?s)/\\*.*?\\*/", "").replaceAll("//[^\n]*", "").replaceAll("\"[^\"\n]*\"", "\"\"");
    }

    private static void words(String code) {
        for (String word : List.of("throw", "throws", "try", "catch", "finally", "synchronized", "assert", "import",
                "package", "protected", "var", "transient", "volatile", "native", "equals", "hashCode", "Object",
                "System.out", "System.exit", "currentTimeMillis", "nanoTime", "Random", "NaN", "protected")) {
            Due.holds("no word " + word, !Pattern.compile("\\b" + Pattern.quote(word) + "\\b").matcher(code).find());
        }
        for (String sign : List.of("->", "::", "Exact(", "@")) {
            Due.holds("no " + sign, !code.contains(sign));
        }
        Matcher library = Pattern.compile("\\b(Math|Integer|Long|Arrays|System)\\.(\\w+)").matcher(code);
        Set<String> fine = Set.of("Math.min", "Math.max", "Math.abs", "Integer.bitCount", "System.arraycopy");
        while (library.find()) {
            Due.holds("rule 4: " + library.group(), fine.contains(library.group()));
        }
        for (char c : code.toCharArray()) {
            Due.holds("signs 1 to 127", c < 128);
        }
    }

    private static void lengths(String code) {
        String[] lines = code.split("\n");
        Pattern head = Pattern.compile("^( {4}| {8})(public |private |static |final )*[\\w\\[\\]]+ ?\\w*\\(.*\\) \\{$");
        int methods = 0;
        for (int i = 0; i < lines.length; i++) {
            Matcher m = head.matcher(lines[i]);
            if (m.find()) {
                methods++;
                int end = i;
                while (!lines[end].equals(m.group(1) + "}")) {
                    end++;
                }
                Due.holds("rule 11: sixty lines:" + lines[i], end - i < 60);
            }
        }
        Due.holds("methods were seen", methods > 80);
    }

    public static void main(String[] args) throws Exception {
        face();
        classes();
        String code = bare(Files.readString(Path.of("src/main/java/HearsaySeeds.java"), StandardCharsets.UTF_8));
        words(code);
        lengths(code);
        Due.finish();
    }
}
