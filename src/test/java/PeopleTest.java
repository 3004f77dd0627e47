/** Promises 1 to 15: people, fields, lots. */
public final class PeopleTest {
    private static final int BAD = Due.BAD, FULL = Due.FULL, KIND = Due.KIND;
    private static final int LOW = Integer.MIN_VALUE, HIGH = Integer.MAX_VALUE;

    private static void due(String call, int got, int want) {
        Due.due(call, got, want);
    }

    /** One of each kind, as its number, all at place 0 but the child, at 4; trust 5. */
    private static HearsaySeeds kinds() {
        HearsaySeeds x = new HearsaySeeds();
        for (int kind = 0; kind < 6; kind++) {
            x.person(kind, kind == 5 ? 4 : 0, 5);
        }
        return x;
    }

    private static void newObject() {
        HearsaySeeds x = new HearsaySeeds();
        int[] counts = {0, 0, 0, 0, 0, 0, 0, 0, 1};
        for (int what = 0; what < 9; what++) {
            due("1: count " + what, x.count(what), counts[what]);
        }
        for (int what = 0; what < 5; what++) {
            due("1: county " + what, x.county(what), 0);
            for (int field = 0; field < 6; field++) {
                due("1: field", x.field(field, what), 0);
            }
        }
        for (int i = 0; i < 4; i++) {
            due("1: sheet is missing", x.reads(i), Due.NOTHING);
        }
        for (int i = 0; i < 5; i++) {
            due("1: slot is empty", x.rest(i, 1), Due.NOTHING);
        }
        for (int i = 0; i < 3; i++) {
            due("1: no text", x.why(i), Due.NONE);
        }
        due("1: no image", x.back(), Due.NO);
        due("1: nobody", x.told(0, 0), BAD);
    }

    private static void person() {
        HearsaySeeds x = new HearsaySeeds();
        due("2: kind", x.person(-1, 0, 0), BAD);
        due("2: kind", x.person(6, 0, 0), BAD);
        due("2: place", x.person(0, -1, 0), BAD);
        due("2: place", x.person(0, 8, 0), BAD);
        due("2: trust", x.person(0, 0, -1), BAD);
        due("2: trust", x.person(0, 0, 10), BAD);
        due("2: lowest", x.person(LOW, LOW, LOW), BAD);
        for (int i = 0; i < 8; i++) {
            due("2: number", x.person(i % 6, i, 9 - i), i);
        }
        due("2: full", x.person(0, 0, 0), FULL);
        due("2: bad ahead of full", x.person(0, 0, 10), BAD);
        due("2: eight", x.count(0), 8);
        for (int i = 0; i < 8; i++) {
            due("2: kind of", x.told(i, 0), i % 6);
            due("2: place of", x.told(i, 1), i);
            due("2: trust of", x.told(i, 2), 9 - i);
            due("2: sure of", x.told(i, 3), 0);
        }
    }

    private static void told() {
        HearsaySeeds x = kinds();
        int[] weighs = {2, 1, 5, 3, 4, 1};
        for (int i = 0; i < 6; i++) {
            due("3: weighs", x.told(i, 4), weighs[i]);
            due("3: thinks nothing", x.told(i, 5), 0);
            due("3: hearers", x.told(i, 6), i == 5 ? 0 : 31 - (1 << i));
            due("3: what", x.told(i, 7), BAD);
            due("3: what", x.told(i, -1), BAD);
        }
        due("3: person", x.told(6, 0), BAD);
        due("3: person", x.told(-1, 0), BAD);
        due("3: person", x.told(HIGH, 0), BAD);
        x.lets(0, 0, 1);
        x.lets(0, 5, 9);
        due("3: fields", x.told(0, 5), 33);
        x.lets(0, 0, 0);
        due("3: fields", x.told(0, 5), 32);
        x.set(3, 1, 7);
        x.set(5, 1, 6);
        due("3: round the lane", x.told(0, 6), 2 + 4 + 8 + 16);
        due("3: round the lane", x.told(3, 6), 1 + 2 + 4 + 16 + 32);
        due("3: two off is not beside", x.told(5, 6), 8);
        x.set(5, 1, 1);
        due("3: beside", x.told(5, 6), 1 + 2 + 4 + 16);
    }

    private static void asAndTurns() {
        HearsaySeeds x = kinds();
        String[] under = {"0", "01", "02", "013", "024", "05"};
        for (int i = 0; i < 6; i++) {
            x.set(i, 3, 10 + i);
            for (int kind = 0; kind < 6; kind++) {
                due("4: as " + i + " " + kind, x.as(i, kind), under[i].indexOf('0' + kind) >= 0 ? 10 + i : KIND);
            }
            due("4: kind", x.as(i, 6), BAD);
            due("4: kind", x.as(i, -1), BAD);
        }
        due("4: person", x.as(6, 0), BAD);
        due("4: person", x.as(-1, 0), BAD);
        due("5: was", x.turns(0, 3), 0);
        due("5: was", x.turns(0, 4), 3);
        due("5: is", x.told(0, 0), 4);
        due("5: weighs", x.told(0, 4), 4);
        due("5: keeps what it is", x.as(0, 2), 10);
        due("5: its own again", x.turns(0, 4), 4);
        due("5: kind", x.turns(0, 6), BAD);
        due("5: kind", x.turns(0, -1), BAD);
        due("5: person", x.turns(6, 0), BAD);
        due("5: person", x.turns(-1, 0), BAD);
        due("5: stays", x.told(0, 0), 4);
    }

    private static void set() {
        HearsaySeeds x = kinds();
        int[] most = {0, 7, 9, 99};
        int[] was = {0, 4, 5, 0};
        for (int what = 1; what < 4; what++) {
            due("6: above", x.set(5, what, most[what] + 1), BAD);
            due("6: below", x.set(5, what, -1), BAD);
            due("6: most", x.set(5, what, most[what]), was[what]);
            due("6: least", x.set(5, what, 0), most[what]);
            due("6: is", x.told(5, what), 0);
        }
        due("6: what", x.set(5, 0, 0), BAD);
        due("6: what", x.set(5, 4, 0), BAD);
        due("6: person", x.set(6, 1, 0), BAD);
        due("6: person", x.set(-1, 1, 0), BAD);
    }

    private static void thoughts() {
        HearsaySeeds x = kinds();
        due("8: was", x.lets(2, 3, 9), 0);
        due("8: was", x.lets(2, 3, 4), 9);
        due("7: thinks", x.thought(2, 3), 4);
        due("7: another field", x.thought(2, 2), 0);
        due("7: another one", x.thought(1, 3), 0);
        due("8: nothing", x.lets(2, 3, 0), 4);
        due("7: nothing", x.thought(2, 3), 0);
        due("8: crop", x.lets(2, 3, 10), BAD);
        due("8: crop", x.lets(2, 3, -1), BAD);
        for (int odd : new int[] {-1, 6, LOW, HIGH}) {
            due("7: person", x.thought(odd, 0), BAD);
            due("7: field", x.thought(0, odd), BAD);
            due("8: person", x.lets(odd, 0, 1), BAD);
            due("8: field", x.lets(0, odd, 1), BAD);
            due("9: person", x.says(odd, 0), BAD);
            due("9: field", x.says(0, odd), BAD);
            due("10: person", x.heeds(odd, 0, 1), BAD);
            due("10: field", x.heeds(0, odd, 1), BAD);
        }
    }

    private static void says() {
        HearsaySeeds x = kinds();
        int[] nothing = {0, 0, 0, 0, 0, 9};
        for (int i = 0; i < 6; i++) {
            due("9: nothing known", x.says(i, 0), nothing[i]);
        }
        x.sow(0, 7);
        due("9: expert", x.says(2, 0), 7);
        due("9: trader, nobody thinks", x.says(4, 0), 7);
        for (int crop = 1; crop < 10; crop++) {
            for (int i = 0; i < 6; i++) {
                x.lets(i, 0, crop);
            }
            int more = crop == 9 ? 1 : crop + 1;
            int[] want = {crop, more, 7, 10 - more, crop, 9};
            for (int i = 0; i < 6; i++) {
                due("9: says " + i + " of " + crop, x.says(i, 0), want[i]);
            }
        }
        // 3 and 4 votes: 2 and 1 think 2, 4 thinks 1.
        for (int i = 0; i < 6; i++) {
            x.lets(i, 0, 0);
        }
        x.lets(0, 0, 2);
        x.lets(3, 0, 2);
        x.lets(2, 0, 1);
        due("9: of several the least", x.says(4, 0), 1);
        x.lets(1, 0, 2);
        due("9: the most", x.says(4, 0), 2);
    }

    private static void heeds() {
        HearsaySeeds x = kinds();
        int[] want = {5, 8, 0, 4, 0, 99};
        for (int i = 0; i < 6; i++) {
            due("10: heeds " + i, x.heeds(i, 1, 3), want[i]);
        }
        x.lets(0, 1, 3);
        x.lets(4, 1, 3);
        x.lets(1, 1, 4);
        x.lets(2, 0, 3);
        due("10: trader", x.heeds(4, 1, 3), 4);
        due("10: trader", x.heeds(4, 1, 4), 2);
        due("10: trader", x.heeds(4, 1, 5), 0);
        due("10: crop", x.heeds(0, 1, 0), BAD);
        due("10: crop", x.heeds(0, 1, 10), BAD);
        // n counts them, s is SURE, v the crop, t TRUST; held within 0 and 99, and only then 3 more, or half.
        Due.text(x, "want n * 10 + s - v + t");
        x.set(0, 3, 7);
        due("10: want", x.heeds(0, 1, 3), 20 + 7 - 3 + 5);
        due("10: want", x.heeds(0, 1, 4), 10 + 7 - 4 + 5);
        due("10: want, gossip", x.heeds(1, 1, 3), 20 - 3 + 5 + 3);
        due("10: want, liar", x.heeds(3, 1, 3), (20 - 3 + 5 + 3) / 2);
        due("10: want, expert", x.heeds(2, 1, 3), 0);
        due("10: want, trader", x.heeds(4, 1, 3), 4);
        due("10: want, child", x.heeds(5, 1, 3), 99);
        Due.text(x, "want 100");
        due("10: at most 99", x.heeds(0, 1, 3), 99);
        due("10: at most 99, and 3", x.heeds(1, 1, 3), 102);
        due("10: at most 99, half", x.heeds(3, 1, 3), 51);
        Due.text(x, "want 0 - 5");
        due("10: at least 0", x.heeds(0, 1, 3), 0);
        due("10: at least 0, and 3", x.heeds(1, 1, 3), 3);
        due("10: at least 0, half", x.heeds(3, 1, 3), 1);
    }

    private static void fields() {
        HearsaySeeds x = kinds();
        due("11: was", x.sow(5, 9), 0);
        due("11: was", x.sow(5, 0), 9);
        due("11: was", x.sow(5, 3), 0);
        due("12: sown", x.field(5, 0), 3);
        due("11: crop", x.sow(5, 10), BAD);
        due("11: crop", x.sow(5, -1), BAD);
        due("11: field", x.sow(6, 1), BAD);
        due("11: field", x.sow(-1, 1), BAD);
        due("12: stays", x.field(5, 0), 3);
        x.lets(0, 5, 8);
        x.lets(3, 5, 8);
        x.lets(2, 5, 6);
        x.lets(5, 5, 9);
        due("12: first crop, of several the least", x.field(5, 2), 6);
        due("12: votes", x.field(5, 3), 5);
        due("12: who", x.field(5, 4), 4);
        x.lets(1, 5, 8);
        due("12: first crop", x.field(5, 2), 8);
        due("12: votes", x.field(5, 3), 6);
        due("12: who", x.field(5, 4), 11);
        due("13: votes", x.votes(5, 8), 6);
        due("13: votes", x.votes(5, 6), 5);
        due("13: votes", x.votes(5, 9), 1);
        due("13: votes", x.votes(5, 1), 0);
        due("13: another field", x.votes(4, 8), 0);
        due("13: crop", x.votes(5, 0), BAD);
        due("13: crop", x.votes(5, 10), BAD);
        due("12: nobody thinks", x.field(0, 4), 0);
        for (int odd : new int[] {-1, 6, LOW, HIGH}) {
            due("12: field", x.field(odd, 0), BAD);
            due("12: what", x.field(0, odd == 6 ? 5 : odd), BAD);
            due("13: field", x.votes(odd, 1), BAD);
        }
        due("12: grew", x.field(5, 1), 0);
        x.weeks(6);
        due("12: grew", x.field(5, 1), x.field(5, 2));
    }

    private static void lots() {
        HearsaySeeds x = new HearsaySeeds();
        due("15: at first", x.seed(7), 1);
        due("15: was", x.seed(0), 7);
        due("15: any", x.seed(LOW), 0);
        due("15: any", x.seed(HIGH), LOW);
        due("15: stands", x.count(8), HIGH);
        due("14: n", x.deal(0), BAD);
        due("14: n", x.deal(9), BAD);
        due("14: n", x.deal(-1), BAD);
        x.seed(0);
        due("14: came", x.deal(1), 1);
        // From 0: 12345, then -740551042, then -1492899873, each >>> 8.
        due("14: kind", x.told(0, 0), (12345 >>> 8) % 6);
        due("14: place", x.told(0, 1), (-740551042 >>> 8) % 8);
        due("14: trust", x.told(0, 2), (-1492899873 >>> 8) % 10);
        due("14: three draws", x.count(8), -1492899873);
        due("14: came", x.deal(5), 5);
        due("14: as many as there is room for", x.deal(8), 2);
        int z = 0;
        for (int i = 0; i < 24; i++) {
            z = z * 1103515245 + 12345;
        }
        due("14: no draws for others", x.count(8), z);
        due("14: no room", x.deal(3), 0);
        due("14: no draws", x.count(8), z);
    }

    public static void main(String[] args) {
        newObject();
        person();
        told();
        asAndTurns();
        set();
        thoughts();
        says();
        heeds();
        fields();
        lots();
        Due.finish();
    }
}
