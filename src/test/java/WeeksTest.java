/** Promises 16 and 17: weeks as they pass, and the county. */
public final class WeeksTest {
    private static final int BAD = Due.BAD;

    private static void due(String call, int got, int want) {
        Due.due(call, got, want);
    }

    /** Two neighbours side by side; the first thinks 4 of field 0; nothing is sown, so the road shows nothing. */
    private static void hearsay() {
        HearsaySeeds x = new HearsaySeeds();
        x.person(0, 0, 5);
        x.person(0, 1, 3);
        x.lets(0, 0, 4);
        due("16: weight", x.weeks(1), 4);
        due("16: thinks it", x.thought(1, 0), 4);
        due("16: is sure so much", x.told(1, 3), 3);
        due("16: grew", x.field(0, 1), 4);
        due("17: weight", x.county(0), 4);
        due("17: wrong", x.county(1), 1);
        due("17: changed", x.county(2), 1);
        due("17: sure of all", x.county(3), 3);
        due("17: agreed", x.county(4), 1);
        due("16: weeks of other fields", x.weeks(4), 0);
        due("16: nothing said", x.county(2), 1);
        due("17: 0 grew where 0 is sown", x.county(1), 1);
        // In week 5 the second one speaks of field 0; the first heeds 5, more than 0, though it thinks so already.
        due("16: weight", x.weeks(1), 0);
        due("16: sure", x.told(0, 3), 5);
        due("16: changed", x.count(4), 2);
        // In week 6 the first speaks of it again: 3 is not more than 3.
        due("16: weight", x.weeks(1), 4);
        due("16: less sure", x.told(1, 3), 2);
        due("16: changed", x.count(4), 2);
        due("16: wrong", x.count(3), 2);
        due("16: the week", x.count(1), 7);
        due("17: what", x.county(5), BAD);
        due("17: what", x.county(-1), BAD);
    }

    private static void edgesOfSure() {
        HearsaySeeds x = new HearsaySeeds();
        x.person(2, 0, 0);
        x.person(2, 0, 9);
        x.person(1, 0, 0);
        x.person(5, 4, 0);
        x.person(5, 3, 0);
        Due.text(x, "want 9999");
        x.sow(0, 3);
        x.seed(1);
        x.weeks(1);
        due("16: an expert is not told", x.thought(1, 0), 0);
        due("16: nor less sure than 0", x.told(1, 3), 0);
        due("16: a gossip heeds 102, is sure 99", x.told(2, 3), 99);
        due("16: a child heeds 99, is sure 99", x.told(3, 3), 99);
        due("16: a child says elephants", x.thought(3, 4), 9);
        // The two children live side by side: in this week too one hears the other once; 99 is not more than 99.
        x.set(3, 3, 99);
        x.weeks(1);
        due("16: a child as sure as can be", x.told(3, 3), 98);
    }

    /** A hearer counts among n from the moment it thinks the crop, for those behind it. */
    private static void oneBehindTheOther() {
        HearsaySeeds x = new HearsaySeeds();
        x.person(0, 0, 1);
        for (int i = 1; i < 8; i++) {
            x.person(4, 0, 1);
        }
        x.lets(0, 0, 4);
        x.weeks(1);
        for (int i = 1; i < 8; i++) {
            due("16: trader " + i, x.thought(i, 0), 4);
        }
        // They heed 2, 4, .. 14; then the one of number 6 speaks of field 0 too, and all others heed 16.
        due("16: the seventh speaks of field 0", x.told(7, 3), 16);
        due("16: itself is not told", x.told(6, 3), 12);
        due("16: weight", x.county(0), 2 + 7 * 4);
    }

    private static void fieldOfANumber() {
        HearsaySeeds x = new HearsaySeeds();
        for (int i = 0; i < 8; i++) {
            x.person(0, i == 7 ? 1 : i == 5 ? 0 : 4, 9);
        }
        // The sixth speaks of field 5 in week 0, of field 0 in week 1; the eighth lives beside it.
        x.lets(5, 0, 2);
        x.weeks(1);
        due("16: not of that field yet", x.thought(7, 0), 0);
        x.weeks(1);
        due("16: the rest by 6 of the week and its number", x.thought(7, 0), 2);
    }

    /** One lives where the first two draws from z 1 lead, another one across the lane. */
    private static void road() {
        int first = 1103515245 + 12345;
        int second = first * 1103515245 + 12345;
        int place = (first >>> 8) % 8;
        int field = (second >>> 8) % 6;
        HearsaySeeds x = new HearsaySeeds();
        x.person(0, place, 9);
        x.person(0, (place + 4) % 8, 9);
        x.sow(field, 8);
        x.set(0, 3, 50);
        x.weeks(1);
        due("16: sees what was sown", x.thought(0, field), 8);
        due("16: no other field", x.told(0, 5), 1 << field);
        due("16: lives elsewhere", x.told(1, 5), 0);
        due("16: sure as it was", x.told(0, 3), 50);
        due("16: changed as it was", x.county(2), 0);
        due("16: two draws", x.count(8), second);
        HearsaySeeds y = new HearsaySeeds();
        y.person(0, place, 9);
        y.lets(0, field, 3);
        y.weeks(1);
        due("16: nothing sown, nothing seen", y.thought(0, field), 3);
    }

    private static void wrongs() {
        HearsaySeeds x = new HearsaySeeds();
        x.weeks(6);
        due("17: nothing grew, nothing sown", x.county(1), 0);
        x.sow(0, 2);
        x.weeks(6);
        due("17: nothing grew where 2 is sown", x.county(1), 1);
        x.person(0, 0, 0);
        x.lets(0, 0, 2);
        due("17: weight", x.weeks(6), 2);
        due("17: 2 grew where 2 is sown", x.county(1), 1);
        due("17: grew", x.field(0, 1), 2);
        x.lets(0, 0, 0);
        x.sow(0, 0);
        due("16: 0 for 0", x.weeks(6), 0);
        due("16: 0 grew", x.field(0, 1), 0);
    }

    private static void agreed() {
        HearsaySeeds x = new HearsaySeeds();
        x.person(0, 0, 0);
        x.person(2, 0, 0);
        x.person(2, 0, 0);
        x.lets(0, 1, 3);
        x.lets(0, 2, 3);
        x.lets(1, 2, 3);
        x.lets(0, 3, 3);
        x.lets(1, 3, 4);
        x.lets(0, 5, 9);
        x.lets(1, 5, 9);
        x.lets(2, 5, 9);
        due("17: agreed", x.county(4), 2 + 4 + 32);
        x.set(0, 3, 40);
        x.set(2, 3, 99);
        due("17: sure of all", x.county(3), 139);
    }

    private static void bounds() {
        HearsaySeeds x = new HearsaySeeds();
        due("16: n", x.weeks(0), BAD);
        due("16: n", x.weeks(-1), BAD);
        due("16: n", x.weeks(101), BAD);
        due("16: n", x.weeks(Integer.MIN_VALUE), BAD);
        due("16: the week", x.count(1), 0);
        for (int i = 0; i < 99; i++) {
            x.weeks(100);
        }
        x.person(0, 0, 0);
        for (int field = 0; field < 6; field++) {
            x.lets(0, field, 5);
        }
        due("16: the week", x.count(1), 9900);
        due("16: up to 9999", x.weeks(100), 198);
        due("16: the week", x.count(1), 9999);
        int z = x.count(8);
        due("16: no more", x.weeks(100), 0);
        due("16: no more", x.weeks(1), 0);
        due("16: no draws", x.count(8), z);
        due("18: without that bound", x.behind(3, 0), 204);
        due("16: the week", x.count(1), 9999);
    }

    public static void main(String[] args) {
        hearsay();
        edgesOfSure();
        oneBehindTheOther();
        fieldOfANumber();
        road();
        wrongs();
        agreed();
        bounds();
        Due.finish();
    }
}
