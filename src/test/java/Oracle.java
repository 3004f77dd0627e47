import java.util.ArrayList;
import java.util.Arrays;
import java.util.List;
import java.util.function.IntUnaryOperator;

/**
 * The document written down a second time, in another way (classes of kinds, a recursive reader, fresh copies for
 * every thought), for runs by lot to be held against.
 */
final class Oracle {
    static final class Refused extends RuntimeException {
        private static final long serialVersionUID = 1L;
        final int code;

        Refused(int code) {
            super(null, null, false, false);
            this.code = code;
        }
    }

    private static final int BAD = Due.BAD, NO = Due.NO, FULL = Due.FULL, NONE = Due.NONE, NOTHING = Due.NOTHING,
            KIND = Due.KIND, INDEX = Due.INDEX, SIZE = Due.SIZE;

    private static void refuse(boolean it, int code) {
        if (it) {
            throw new Refused(code);
        }
    }

    private static void range(int v, int least, int most) {
        refuse(v < least || v > most, BAD);
    }

    // ---- people, each an object of its kind

    static class Neighbour {
        int place, trust, sure;
        int[] thinks = new int[6];

        int says(State s, int f) {
            return thinks[f];
        }

        int heeds(State s, int f, int crop) {
            Law want = s.law("want");
            if (want == null) {
                return trust;
            }
            int v = want.tree.value(name -> name == 't' ? trust : name == 'n' ? s.thinkers(f, crop)
                    : name == 's' ? sure : crop);
            return v < 0 ? 0 : v > 99 ? 99 : v;
        }

        int weighs() {
            return 2;
        }
    }

    static class Gossip extends Neighbour {
        @Override int says(State s, int f) {
            int c = super.says(s, f);
            return c == 0 ? 0 : c % 9 + 1;
        }

        @Override int heeds(State s, int f, int crop) {
            return super.heeds(s, f, crop) + 3;
        }

        @Override int weighs() {
            return super.weighs() - 1;
        }
    }

    static class Expert extends Neighbour {
        @Override int says(State s, int f) {
            return s.sown[f];
        }

        @Override int heeds(State s, int f, int crop) {
            return 0;
        }

        @Override int weighs() {
            return super.weighs() + 3;
        }
    }

    static class Liar extends Gossip {
        @Override int says(State s, int f) {
            int c = super.says(s, f);
            return c == 0 ? 0 : 10 - c;
        }

        @Override int heeds(State s, int f, int crop) {
            return super.heeds(s, f, crop) / 2;
        }

        @Override int weighs() {
            return super.weighs() * 2 + 1;
        }
    }

    static class Trader extends Expert {
        @Override int says(State s, int f) {
            int c = s.firstCrop(f);
            return c == 0 ? super.says(s, f) : c;
        }

        @Override int heeds(State s, int f, int crop) {
            return super.heeds(s, f, crop) + 2 * s.thinkers(f, crop);
        }

        @Override int weighs() {
            return super.weighs() - 1;
        }
    }

    static class Child extends Neighbour {
        @Override int says(State s, int f) {
            return 9;
        }

        @Override int heeds(State s, int f, int crop) {
            return 99;
        }

        @Override int weighs() {
            return 1;
        }
    }

    private static final List<Class<? extends Neighbour>> CLASSES =
            List.of(Neighbour.class, Gossip.class, Expert.class, Liar.class, Trader.class, Child.class);

    static Neighbour born(int kind, Neighbour like) {
        Neighbour p = switch (kind) {
            case 0 -> new Neighbour();
            case 1 -> new Gossip();
            case 2 -> new Expert();
            case 3 -> new Liar();
            case 4 -> new Trader();
            default -> new Child();
        };
        if (like != null) {
            p.place = like.place;
            p.trust = like.trust;
            p.sure = like.sure;
            p.thinks = like.thinks.clone();
        }
        return p;
    }

    static int kindOf(Neighbour p) {
        return CLASSES.indexOf(p.getClass());
    }

    // ---- the county

    static final class State {
        List<Neighbour> people = new ArrayList<>();
        int[] sown = new int[6];
        int[] grew = new int[6];
        int weight, wrong, changed, week, z = 1;
        List<Law> laws = new ArrayList<>();

        State dup() {
            State s = new State();
            for (Neighbour p : people) {
                s.people.add(born(kindOf(p), p));
            }
            s.sown = sown.clone();
            s.grew = grew.clone();
            s.weight = weight;
            s.wrong = wrong;
            s.changed = changed;
            s.week = week;
            s.z = z;
            s.laws = new ArrayList<>(laws);
            return s;
        }

        Law law(String key) {
            Law found = null;
            for (Law law : laws) {
                if (law.key.equals(key)) {
                    found = law;
                }
            }
            return found;
        }

        int thinkers(int f, int crop) {
            return (int) people.stream().filter(p -> p.thinks[f] == crop).count();
        }

        int[] tally(int f) {
            int[] votes = new int[10];
            for (Neighbour p : people) {
                votes[p.thinks[f]] += p.weighs();
            }
            votes[0] = 0;
            return votes;
        }

        int firstCrop(int f) {
            int[] votes = tally(f);
            int most = Arrays.stream(votes).max().getAsInt();
            for (int c = 0; c < 10; c++) {
                if (votes[c] == most) {
                    return c;
                }
            }
            return 0;
        }

        boolean near(Neighbour a, Neighbour b) {
            return a != b && (a.place == b.place || a.place == (b.place + 1) % 8 || b.place == (a.place + 1) % 8);
        }

        int draw() {
            z = z * 1103515245 + 12345;
            return z >>> 8;
        }

        void oneWeek() {
            for (int i = 0; i < people.size(); i++) {
                Neighbour speaker = people.get(i);
                int f = (week + i) % 6;
                int c = speaker.says(this, f);
                for (Neighbour p : people) {
                    if (c != 0 && near(p, speaker)) {
                        int h = p.heeds(this, f, c);
                        if (h > p.sure) {
                            p.thinks[f] = c;
                            p.sure = h > 99 ? 99 : h;
                            changed++;
                        } else if (p.sure > 0) {
                            p.sure--;
                        }
                    }
                }
            }
            int where = draw() % 8;
            int what = draw() % 6;
            for (Neighbour p : people) {
                if (p.place == where && sown[what] != 0) {
                    p.thinks[what] = sown[what];
                }
            }
            int f = week % 6;
            grew[f] = firstCrop(f);
            weight += tally(f)[grew[f]];
            wrong += grew[f] == sown[f] ? 0 : 1;
            week++;
        }

        State later(int n) {
            State s = dup();
            for (int i = 0; i < n; i++) {
                s.oneWeek();
            }
            return s;
        }
    }

    // ---- texts

    interface Tree {
        int value(IntUnaryOperator names);
    }

    static final class Law {
        String key;
        Tree tree;
        int leaves;
    }

    /** The grammar, a method a rule; a fault is refused with -100 less its place. */
    static final class Grammar {
        final byte[] tape;
        int at = 0;
        int parens = 0;
        int bangs = 0;
        int leaves = 0;
        String names = "";

        Grammar(byte[] tape) {
            this.tape = tape;
        }

        Law law() {
            Law law = new Law();
            String word = peek();
            if (!word.equals("want") && !word.equals("fee") && !word.equals("fine")) {
                fault();
            }
            at = start() + word.length();
            law.key = word;
            names = word.equals("want") ? "tnsv" : word.equals("fee") ? "wg" : "ts";
            law.tree = or();
            if (!peek().isEmpty()) {
                fault();
            }
            law.leaves = leaves;
            return law;
        }

        int start() {
            int i = at;
            while (i < tape.length && tape[i] == 32) {
                i++;
            }
            return i;
        }

        void fault() {
            throw new Refused(-100 - start());
        }

        static int sort(byte b) {
            return b >= 'a' && b <= 'z' ? 1 : b >= '0' && b <= '9' ? 2 : 0;
        }

        /** The next word or sign, "" at the end, "?" for a word that needs a blank ahead of it. */
        String peek() {
            int i = start();
            if (i == tape.length) {
                return "";
            }
            int sort = sort(tape[i]);
            if (sort != 0 && i > 0 && sort(tape[i - 1]) != 0) {
                return "?";
            }
            StringBuilder word = new StringBuilder();
            do {
                word.append((char) (tape[i++] & 255));
            } while (sort != 0 && i < tape.length && sort(tape[i]) == sort);
            return word.toString();
        }

        boolean is(String signs) {
            String next = peek();
            return next.length() == 1 && signs.contains(next);
        }

        char take() {
            char sign = peek().charAt(0);
            at = start() + 1;
            return sign;
        }

        Tree or() {
            Tree left = and();
            while (is("|")) {
                take();
                Tree a = left;
                Tree b = and();
                left = n -> (a.value(n) != 0 | b.value(n) != 0) ? 1 : 0;
            }
            return left;
        }

        Tree and() {
            Tree left = test();
            while (is("&")) {
                take();
                Tree a = left;
                Tree b = test();
                left = n -> (a.value(n) != 0 & b.value(n) != 0) ? 1 : 0;
            }
            return left;
        }

        Tree test() {
            Tree a = sum();
            if (!is("<=>")) {
                return a;
            }
            char sign = take();
            Tree b = sum();
            return n -> {
                int order = Integer.compare(a.value(n), b.value(n));
                return (sign == '<' ? order < 0 : sign == '=' ? order == 0 : order > 0) ? 1 : 0;
            };
        }

        Tree sum() {
            Tree left = term();
            while (is("+-")) {
                char sign = take();
                Tree a = left;
                Tree b = term();
                left = n -> sign == '+' ? a.value(n) + b.value(n) : a.value(n) - b.value(n);
            }
            return left;
        }

        Tree term() {
            Tree left = piece();
            while (is("*/")) {
                char sign = take();
                Tree a = left;
                Tree b = piece();
                left = n -> {
                    int d = b.value(n);
                    return sign == '*' ? a.value(n) * d : d == 0 ? 0 : a.value(n) / d;
                };
            }
            return left;
        }

        Tree piece() {
            String next = peek();
            if (next.matches("[0-9]{1,4}")) {
                at = start() + next.length();
                leaves++;
                int v = Integer.parseInt(next);
                return n -> v;
            }
            if (next.matches("[a-z]") && names.contains(next)) {
                leaves++;
                char name = take();
                return n -> n.applyAsInt(name);
            }
            if (next.equals("!") && bangs < 8) {
                take();
                bangs++;
                Tree a = piece();
                bangs--;
                return n -> a.value(n) == 0 ? 1 : 0;
            }
            if (next.equals("(") && parens < 8) {
                take();
                parens++;
                Tree a = or();
                if (!is(")")) {
                    fault();
                }
                take();
                parens--;
                return a;
            }
            fault();
            return null;
        }
    }

    // ---- the object

    State now = new State();
    State image = null;
    final Object[] sheets = new Object[4];
    final Object[] slots = new Object[5];
    final List<Integer> waiting = new ArrayList<>();
    byte[] tape = new byte[0];

    private Neighbour one(int person) {
        range(person, 0, now.people.size() - 1);
        return now.people.get(person);
    }

    int call(String name, int[] a) {
        try {
            return switch (name) {
                case "person", "told", "as", "turns", "set", "thought", "lets", "says", "heeds" -> people(name, a);
                case "sow", "field", "votes", "deal", "seed", "weeks", "county" -> county(name, a);
                case "behind", "first", "ear", "fewest", "house", "becomes", "like", "fee", "fine" -> future(name, a);
                case "feed", "trim", "text", "textTold", "why" -> texts(name, a);
                case "sheet", "mark", "pour", "reads", "copy" -> sheets(name, a);
                case "lay", "ask", "item", "rest" -> slots(name, a);
                default -> rows(name, a);
            };
        } catch (Refused refused) {
            return refused.code;
        }
    }

    private int people(String name, int[] a) {
        if (name.equals("person")) {
            range(a[0], 0, 5);
            range(a[1], 0, 7);
            range(a[2], 0, 9);
            refuse(now.people.size() == 8, FULL);
            Neighbour p = born(a[0], null);
            p.place = a[1];
            p.trust = a[2];
            now.people.add(p);
            return now.people.size() - 1;
        }
        Neighbour p = one(a[0]);
        int was;
        switch (name) {
            case "told":
                range(a[1], 0, 6);
                int fields = 0;
                for (int f = 5; f >= 0; f--) {
                    fields = fields * 2 + (p.thinks[f] > 0 ? 1 : 0);
                }
                int hearers = 0;
                for (int i = now.people.size() - 1; i >= 0; i--) {
                    hearers = hearers * 2 + (now.near(now.people.get(i), p) ? 1 : 0);
                }
                return new int[] {kindOf(p), p.place, p.trust, p.sure, p.weighs(), fields, hearers}[a[1]];
            case "as":
                range(a[1], 0, 5);
                refuse(!CLASSES.get(a[1]).isInstance(p), KIND);
                return p.sure;
            case "turns":
                range(a[1], 0, 5);
                now.people.set(a[0], born(a[1], p));
                return kindOf(p);
            case "set":
                range(a[1], 1, 3);
                range(a[2], 0, a[1] == 1 ? 7 : a[1] == 2 ? 9 : 99);
                was = a[1] == 1 ? p.place : a[1] == 2 ? p.trust : p.sure;
                p.place = a[1] == 1 ? a[2] : p.place;
                p.trust = a[1] == 2 ? a[2] : p.trust;
                p.sure = a[1] == 3 ? a[2] : p.sure;
                return was;
            default:
                break;
        }
        range(a[1], 0, 5);
        switch (name) {
            case "thought":
                return p.thinks[a[1]];
            case "says":
                return p.says(now, a[1]);
            case "lets":
                range(a[2], 0, 9);
                was = p.thinks[a[1]];
                p.thinks[a[1]] = a[2];
                return was;
            default:
                range(a[2], 1, 9);
                return p.heeds(now, a[1], a[2]);
        }
    }

    private int county(String name, int[] a) {
        int was;
        switch (name) {
            case "sow":
                range(a[0], 0, 5);
                range(a[1], 0, 9);
                was = now.sown[a[0]];
                now.sown[a[0]] = a[1];
                return was;
            case "field":
                range(a[0], 0, 5);
                range(a[1], 0, 4);
                int c = now.firstCrop(a[0]);
                int who = 0;
                for (int i = 0; i < now.people.size(); i++) {
                    who += c != 0 && now.people.get(i).thinks[a[0]] == c ? 1 << i : 0;
                }
                return new int[] {now.sown[a[0]], now.grew[a[0]], c, now.tally(a[0])[c], who}[a[1]];
            case "votes":
                range(a[0], 0, 5);
                range(a[1], 1, 9);
                return now.tally(a[0])[a[1]];
            case "deal":
                range(a[0], 1, 8);
                int came = 0;
                while (came < a[0] && now.people.size() < 8) {
                    Neighbour p = born(now.draw() % 6, null);
                    p.place = now.draw() % 8;
                    p.trust = now.draw() % 10;
                    now.people.add(p);
                    came++;
                }
                return came;
            case "seed":
                was = now.z;
                now.z = a[0];
                return was;
            case "weeks":
                range(a[0], 1, 100);
                was = now.weight;
                for (int i = 0; i < a[0] && now.week < 9999; i++) {
                    now.oneWeek();
                }
                return now.weight - was;
            default:
                range(a[0], 0, 4);
                int sure = now.people.stream().mapToInt(p -> p.sure).sum();
                int agreed = 0;
                for (int f = 0; f < 6; f++) {
                    int g = f;
                    long kinds = now.people.stream().map(p -> p.thinks[g]).filter(t -> t != 0).distinct().count();
                    agreed += kinds == 1 ? 1 << f : 0;
                }
                return new int[] {now.weight, now.wrong, now.changed, sure, agreed}[a[0]];
        }
    }

    private State told(int set, int f, int crop) {
        State s = now.dup();
        for (int i = 0; i < s.people.size(); i++) {
            if ((set & 1 << i) != 0) {
                s.people.get(i).thinks[f] = crop;
                s.people.get(i).sure = 99;
            }
        }
        return s;
    }

    private int future(String name, int[] a) {
        int best = -1;
        int mark = 0;
        switch (name) {
            case "behind":
                range(a[0], 0, 100);
                range(a[1], 0, 8);
                State s = now.later(a[0]);
                return a[1] == 0 ? s.weight : a[1] == 1 ? s.wrong : a[1] == 2 ? s.changed : s.grew[a[1] - 3];
            case "first":
                range(a[0], 0, 5);
                range(a[1], 0, 9);
                for (int k = 0; k <= 200; k++) {
                    if (now.later(k).grew[a[0]] == a[1]) {
                        return k;
                    }
                }
                return NONE;
            case "ear":
                range(a[0], 0, 5);
                range(a[1], 1, 9);
                range(a[2], 0, 60);
                range(a[3], 0, 1);
                refuse(now.people.isEmpty(), NONE);
                for (int i = 0; i < now.people.size(); i++) {
                    int v = told(1 << i, a[0], a[1]).later(a[2]).tally(a[0])[a[1]];
                    if (best < 0 || v > mark) {
                        best = i;
                        mark = v;
                    }
                }
                return a[3] == 0 ? best : mark;
            case "fewest":
                range(a[0], 0, 5);
                range(a[1], 1, 9);
                range(a[2], 0, 12);
                for (int set = 0; set < 1 << now.people.size(); set++) {
                    if ((best < 0 || Integer.bitCount(set) < Integer.bitCount(best))
                            && told(set, a[0], a[1]).later(a[2]).firstCrop(a[0]) == a[1]) {
                        best = set;
                    }
                }
                return best < 0 ? NONE : best;
            case "house":
            case "becomes":
                one(a[0]);
                range(a[1], 1, 60);
                range(a[2], 0, 1);
                boolean house = name.equals("house");
                for (int i = 0; i < (house ? 8 : 6); i++) {
                    State t = now.dup();
                    if (house) {
                        t.people.get(a[0]).place = i;
                    } else {
                        t.people.set(a[0], born(i, t.people.get(a[0])));
                    }
                    t = t.later(a[1]);
                    int good = house ? t.weight : -t.wrong;
                    if (best < 0 || good > mark) {
                        best = i;
                        mark = good;
                    }
                }
                return a[2] == 0 ? best : house ? mark : -mark;
            case "like":
                range(a[0], 0, 3);
                range(a[1], 0, 1);
                refuse(sheets[a[0]] == null, NOTHING);
                for (int f = 0; f < 6; f++) {
                    int apart = 0;
                    for (int k = 0; k < length(sheets[a[0]]); k++) {
                        Integer v = at(sheets[a[0]], k);
                        apart += v == null ? 0 : Math.abs(v - now.later(k).firstCrop(f));
                    }
                    if (best < 0 || apart < mark) {
                        best = f;
                        mark = apart;
                    }
                }
                return a[1] == 0 ? best : mark;
            case "fee":
                Law fee = now.law("fee");
                return fee == null ? now.weight : fee.tree.value(n -> n == 'w' ? now.weight : now.wrong);
            default:
                Neighbour p = one(a[0]);
                Law fine = now.law("fine");
                return fine == null ? p.sure : fine.tree.value(n -> n == 't' ? p.trust : p.sure);
        }
    }

    private int texts(String name, int[] a) {
        switch (name) {
            case "feed":
                refuse(tape.length > 84, FULL);
                byte[] longer = Arrays.copyOf(tape, tape.length + 12);
                for (int i = 0; i < 12; i++) {
                    longer[tape.length + i] = (byte) (a[i / 4] >>> 24 - i % 4 * 8);
                }
                tape = longer;
                return tape.length;
            case "trim":
                range(a[0], 0, tape.length);
                tape = Arrays.copyOf(tape, a[0]);
                return a[0];
            case "text":
                byte[] read = tape;
                tape = new byte[0];
                Law law = new Grammar(read).law();
                refuse(now.laws.size() == 14, FULL);
                now.laws.add(law);
                return now.laws.size() - 1;
            case "textTold":
                range(a[0], 0, now.laws.size() - 1);
                range(a[1], 0, 1);
                Law told = now.laws.get(a[0]);
                return a[1] == 1 ? told.leaves : List.of("want", "fee", "fine").indexOf(told.key);
            default:
                range(a[0], 0, 2);
                Law found = now.law(List.of("want", "fee", "fine").get(a[0]));
                return found == null ? NONE : now.laws.indexOf(found);
        }
    }

    // Sheets are rows of short[] or float[] here, NO NUMBER is NaN.

    private static int length(Object row) {
        return row instanceof short[] s ? s.length : ((float[]) row).length;
    }

    private static Integer at(Object row, int i) {
        if (row instanceof short[] s) {
            return (int) s[i];
        }
        float v = ((float[]) row)[i];
        return Float.isNaN(v) ? null : Integer.valueOf((int) v);
    }

    private int sheets(String name, int[] a) {
        range(a[0], 0, 3);
        if (name.equals("sheet")) {
            range(a[1], -1, 1);
            if (a[1] == -1) {
                sheets[a[0]] = null;
                return 0;
            }
            refuse(a[2] > 24, BAD);
            refuse(a[2] < 0, SIZE);
            sheets[a[0]] = a[1] == 0 ? new short[a[2]] : new float[a[2]];
            return a[2];
        }
        if (name.equals("copy")) {
            range(a[2], 0, 3);
            refuse(sheets[a[0]] == null || sheets[a[2]] == null, NOTHING);
            refuse(sheets[a[0]].getClass() != sheets[a[2]].getClass(), KIND);
            try {
                System.arraycopy(sheets[a[0]], a[1], sheets[a[2]], a[3], a[4]);
            } catch (IndexOutOfBoundsException beyond) {
                return INDEX;
            }
            return a[4];
        }
        Object row = sheets[a[0]];
        refuse(row == null, NOTHING);
        switch (name) {
            case "mark":
                refuse(a[1] < 0 || a[1] >= length(row), INDEX);
                if (row instanceof short[] s) {
                    refuse(a[2] == NONE, KIND);
                    s[a[1]] = (short) a[2];
                } else {
                    refuse(a[2] != NONE && (a[2] < -99999 || a[2] > 99999), BAD);
                    ((float[]) row)[a[1]] = a[2] == NONE ? Float.NaN : a[2];
                }
                return 1;
            case "pour":
                int[] was = now.sown.clone();
                for (int i = 0; i < Math.min(6, length(row)); i++) {
                    Integer v = at(row, i);
                    now.sown[i] = v == null ? now.sown[i] : v < 0 ? 0 : v > 9 ? 9 : v;
                }
                int other = 0;
                for (int i = 0; i < 6; i++) {
                    other += was[i] == now.sown[i] ? 0 : 1;
                }
                return other;
            default:
                for (int i = 0; i < length(row); i++) {
                    Integer v = at(row, i);
                    if (v != null && !(i < 6 && v == now.grew[i])) {
                        return i;
                    }
                }
                return NONE;
        }
    }

    private int slots(String name, int[] a) {
        range(a[0], 0, 4);
        Object held = slots[a[0]];
        switch (name) {
            case "lay":
                range(a[1], 0, 3);
                Object laid = null;
                if (a[1] == 1) {
                    laid = born(kindOf(one(a[2])), one(a[2]));
                } else if (a[1] == 2) {
                    range(a[2], 0, 3);
                    refuse(sheets[a[2]] == null, NOTHING);
                    laid = sheets[a[2]] instanceof short[] s ? s.clone() : ((float[]) sheets[a[2]]).clone();
                } else if (a[1] == 3) {
                    laid = a[2];
                }
                slots[a[0]] = laid;
                return held == null ? 0 : held instanceof Neighbour ? 1 : held instanceof Integer ? 3 : 2;
            case "ask":
                range(a[1], 0, 5);
                refuse(held == null, NOTHING);
                refuse(!CLASSES.get(a[1]).isInstance(held), KIND);
                return ((Neighbour) held).weighs();
            case "item":
                refuse(held == null, NOTHING);
                refuse(held instanceof Neighbour || held instanceof Integer, KIND);
                refuse(a[1] < 0 || a[1] >= length(held), INDEX);
                Integer v = at(held, a[1]);
                refuse(v == null, KIND);
                return v;
            default:
                refuse(held == null, NOTHING);
                refuse(!(held instanceof Integer), KIND);
                refuse(a[1] == 0, NO);
                return (Integer) held % a[1];
        }
    }

    private int rows(String name, int[] a) {
        switch (name) {
            case "tell":
                refuse(waiting.size() == 60, FULL);
                waiting.add(a[0]);
                return waiting.size();
            case "check":
                List<Integer> got = new ArrayList<>(waiting);
                waiting.clear();
                range(a[0], 1, 30);
                refuse(image == null, NO);
                List<Integer> due = new ArrayList<>();
                State s = image.dup();
                for (int i = 0; i < a[0] && s.week < 9999; i++) {
                    s.oneWeek();
                    due.add(s.weight);
                    due.add(s.changed);
                }
                int same = 0;
                while (same < got.size() && same < due.size() && got.get(same).equals(due.get(same))) {
                    same++;
                }
                return got.equals(due) ? 0 : 1 + same;
            case "keep":
                image = now.dup();
                return now.people.size();
            case "back":
                refuse(image == null, NO);
                now = image.dup();
                return now.people.size();
            default:
                range(a[0], 0, 8);
                return new int[] {now.people.size(), now.week, now.weight, now.wrong, now.changed, now.laws.size(),
                    waiting.size(), tape.length, now.z}[a[0]];
        }
    }
}
