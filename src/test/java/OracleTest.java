import java.lang.reflect.InvocationTargetException;
import java.lang.reflect.Method;
import java.lang.reflect.Modifier;
import java.util.ArrayList;
import java.util.Arrays;
import java.util.Comparator;
import java.util.HashMap;
import java.util.List;
import java.util.Map;
import java.util.Random;

/** Runs by lot (the same each time), every answer held against the oracle's. */
public final class OracleTest {
    /** The document leaves free what an object answers behind its 512th call; one step makes 75 calls at most. */
    private static final int RUNS = 500, CALLS = 512, MOST_OF_A_STEP = 75;
    private static final int[] ODD = {-1, Integer.MIN_VALUE, Integer.MAX_VALUE, 10, 24, 25, 100, 101, Due.NONE, -24, 61};
    private static final String[] PARTS = {"want", "fee", "fine", "t", "n", "s", "v", "w", "g", "+", "-", "*", "/", "<",
        "=", ">", "&", "|", "!", "(", ")", "0", "7", "12", "345", "6789", "12345", "x", "tt", "A", "\u00e9", "\0"};

    /** What the document lets each call be asked with, least and most of each number. */
    private static final Map<String, int[]> RANGES = new HashMap<>();

    private static int made = 0;

    private static void range(String name, int... leastAndMost) {
        RANGES.put(name, leastAndMost);
    }

    private static void ranges() {
        range("person", 0, 5, 0, 7, 0, 9);
        range("told", 0, 7, 0, 6);
        range("as", 0, 7, 0, 5);
        range("turns", 0, 7, 0, 5);
        range("set", 0, 7, 1, 3, 0, 9);
        range("thought", 0, 7, 0, 5);
        range("lets", 0, 7, 0, 5, 0, 9);
        range("says", 0, 7, 0, 5);
        range("heeds", 0, 7, 0, 5, 1, 9);
        range("sow", 0, 5, 0, 9);
        range("field", 0, 5, 0, 4);
        range("votes", 0, 5, 1, 9);
        range("deal", 1, 8);
        range("seed", -9, 9);
        range("weeks", 1, 9);
        range("county", 0, 4);
        range("behind", 0, 100, 0, 8);
        range("first", 0, 5, 0, 9);
        range("ear", 0, 5, 1, 9, 0, 60, 0, 1);
        range("fewest", 0, 5, 1, 9, 0, 12);
        range("house", 0, 7, 1, 60, 0, 1);
        range("becomes", 0, 7, 1, 60, 0, 1);
        range("like", 0, 3, 0, 1);
        range("fine", 0, 7);
        range("feed", 0, 1 << 30, 0, 1 << 30, 0, 1 << 30);
        range("trim", 0, 24);
        range("textTold", 0, 13, 0, 1);
        range("why", 0, 2);
        range("sheet", 0, 3, -1, 1, -1, 25);
        range("mark", 0, 3, 0, 8, -2, 12);
        range("pour", 0, 3);
        range("reads", 0, 3);
        range("copy", 0, 3, -1, 12, 0, 3, -1, 12, -1, 12);
        range("lay", 0, 4, 0, 3, 0, 4);
        range("ask", 0, 4, 0, 5);
        range("item", 0, 4, -1, 12);
        range("rest", 0, 4, -5, 5);
        range("tell", -3, 40);
        range("check", 1, 30);
        range("count", 0, 8);
    }

    private static List<Method> calls() {
        List<Method> calls = new ArrayList<>();
        for (Method m : HearsaySeeds.class.getDeclaredMethods()) {
            if (Modifier.isPublic(m.getModifiers())) {
                calls.add(m);
            }
        }
        calls.sort(Comparator.comparing(Method::getName));
        return calls;
    }

    private static int some(Random lot, int n) {
        return lot.nextInt(n);
    }

    /** A right text mostly, as the grammar goes. */
    private static String expression(Random lot, String names, int depth) {
        int way = depth <= 0 ? some(lot, 2) : some(lot, 10);
        String gap = some(lot, 6) == 0 ? " " : "";
        switch (way) {
            case 0: return "" + some(lot, some(lot, 3) == 0 ? 10000 : 12);
            case 1: return "" + names.charAt(some(lot, names.length()));
            case 2: return "!" + gap + expression(lot, names, 0);
            case 3: case 4: return "(" + expression(lot, names, depth - 1) + gap + ")";
            default:
                return expression(lot, names, depth - 1) + gap + "+-*/<=>&|".charAt(some(lot, 9)) + gap
                    + expression(lot, names, depth - 1);
        }
    }

    private static String textByLot(Random lot) {
        int key = some(lot, 3);
        String text = PARTS[key] + " " + expression(lot, key == 0 ? "tnsv" : key == 1 ? "wg" : "ts", some(lot, 5));
        if (some(lot, 3) == 0) {
            StringBuilder odd = new StringBuilder(text);
            int at = some(lot, odd.length() + 1);
            odd.replace(at, Math.min(odd.length(), at + some(lot, 3)), PARTS[some(lot, PARTS.length)]);
            text = odd.toString();
        }
        if (some(lot, 12) == 0) {
            StringBuilder deep = new StringBuilder("want ");
            int levels = 6 + some(lot, 5);
            for (int i = 0; i < levels; i++) {
                deep.append(some(lot, 2) == 0 ? "(" : "!(");
            }
            text = deep.append("t").append(")".repeat(levels - some(lot, 2))).toString();
        }
        if (some(lot, 12) == 0) {
            text = "fine " + "!".repeat(7 + some(lot, 3)) + "(!t)";
        }
        return text.length() > 96 ? text.substring(0, 96) : text;
    }

    private static int argument(Random lot, String name, int k) {
        switch (some(lot, 50)) {
            case 0: return ODD[some(lot, ODD.length)];
            case 1: return lot.nextInt();
            case 2: return some(lot, 101);
            case 3: return lot.nextInt() >> some(lot, 32);
            default: return RANGES.get(name)[2 * k] + some(lot, RANGES.get(name)[2 * k + 1] - RANGES.get(name)[2 * k] + 1);
        }
    }

    private static boolean fine(HearsaySeeds x, Oracle o, Method m, int[] args, StringBuilder log) throws Exception {
        Object[] boxed = new Object[args.length];
        for (int i = 0; i < args.length; i++) {
            boxed[i] = args[i];
        }
        int want = o.call(m.getName(), args);
        int got;
        made++;
        try {
            got = (Integer) m.invoke(x, boxed);
        } catch (InvocationTargetException thrown) {
            System.out.println(m.getName() + Arrays.toString(args) + " threw " + thrown.getCause());
            return false;
        }
        log.append(m.getName()).append(Arrays.toString(args)).append(" = ").append(got).append('\n');
        if (got != want) {
            System.out.println(log);
            System.out.println(m.getName() + Arrays.toString(args) + " answered " + got + ", due is " + want);
        }
        return got == want;
    }

    private static boolean dear(String name) {
        return List.of("fewest", "like", "first", "ear", "house", "becomes", "behind").contains(name);
    }

    private static boolean run(int number, List<Method> calls) throws Exception {
        Random lot = new Random(number);
        HearsaySeeds x = new HearsaySeeds();
        Oracle o = new Oracle();
        StringBuilder log = new StringBuilder();
        boolean late = number % 10 == 9;
        made = 0;
        if (number % 3 != 0) {
            x.seed(number);
            o.call("seed", new int[] {number});
            x.deal(8);
            o.call("deal", new int[] {8});
            made += 2;
        }
        for (int i = 0; i < CALLS && made <= CALLS - MOST_OF_A_STEP; i++) {
            Method m = calls.get(some(lot, calls.size()));
            int[] args = new int[m.getParameterCount()];
            for (int k = 0; k < args.length; k++) {
                args[k] = argument(lot, m.getName(), k);
            }
            if (dear(m.getName()) && some(lot, 3) != 0 || late && i < 150) {
                m = HearsaySeeds.class.getMethod("weeks", int.class);
                args = new int[] {late && i < 150 ? 60 + some(lot, 41) - some(lot, 40) / 39 * 99 : 1 + some(lot, 5)};
            }
            if (m.getName().equals("back") && some(lot, 12) != 0 || m.getName().equals("trim") && some(lot, 2) == 0) {
                continue;
            }
            if (m.getName().equals("text") && some(lot, 8) != 0) {
                String text = textByLot(lot);
                Method feed = HearsaySeeds.class.getMethod("feed", int.class, int.class, int.class);
                if (!fine(x, o, HearsaySeeds.class.getMethod("trim", int.class), new int[] {0}, log)) {
                    return false;
                }
                for (int at = 0; at < text.length(); at += 12) {
                    int[] bytes = {Due.number(text, at), Due.number(text, at + 4), Due.number(text, at + 8)};
                    if (!fine(x, o, feed, bytes, log)) {
                        return false;
                    }
                }
                if (!fine(x, o, HearsaySeeds.class.getMethod("trim", int.class), new int[] {text.length()}, log)) {
                    return false;
                }
            }
            if (m.getName().equals("check") && o.image != null && some(lot, 4) != 0 && args[0] > 0 && args[0] < 31) {
                if (!tellRight(x, o, args[0], lot, log)) {
                    return false;
                }
            }
            if (!fine(x, o, m, args, log)) {
                return false;
            }
        }
        return true;
    }

    /** The weeks told, mostly right, sometimes one off, one short or one too many. */
    private static boolean tellRight(HearsaySeeds x, Oracle o, int n, Random lot, StringBuilder log) throws Exception {
        Method tell = HearsaySeeds.class.getMethod("tell", int.class);
        o.call("check", new int[] {1});
        x.check(1);
        made++;
        int weeks = Math.min(n, 9999 - o.image.week);
        int told = 2 * weeks + (some(lot, 3) == 0 ? some(lot, 3) - 1 : 0);
        int off = some(lot, 3) == 0 ? some(lot, 2 * weeks + 1) : -1;
        for (int i = 0; i < told; i++) {
            Oracle.State s = o.image.later(i / 2 + 1);
            int v = (i % 2 == 0 ? s.weight : s.changed) + (i == off ? 1 : 0);
            if (!fine(x, o, tell, new int[] {v}, log)) {
                return false;
            }
        }
        return true;
    }

    public static void main(String[] args) throws Exception {
        int runs = args.length > 0 ? Integer.parseInt(args[0]) : RUNS;
        int from = args.length > 1 ? Integer.parseInt(args[1]) : 0;
        ranges();
        List<Method> calls = calls();
        int most = 0;
        for (int number = from; number < from + runs; number++) {
            if (!run(number, calls)) {
                System.out.println("run by lot " + number + " is not as the oracle's");
                System.exit(1);
            }
            most = Math.max(most, made);
        }
        if (most > CALLS) {
            System.out.println("a run made " + most + " calls");
            System.exit(1);
        }
        System.out.println(runs + " runs by lot are as the oracle's");
    }
}
