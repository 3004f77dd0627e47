/** Promises 18 to 26: what will be, fees and fines. */
public final class FutureTest {
    private static final int BAD = Due.BAD, NONE = Due.NONE, NOTHING = Due.NOTHING;

    private static void due(String call, int got, int want) {
        Due.due(call, got, want);
    }

    /** All that can be seen of an object without changing it. */
    static String seen(HearsaySeeds x) {
        StringBuilder all = new StringBuilder();
        for (int i = 0; i < 9; i++) {
            all.append(x.count(i)).append(' ');
        }
        for (int i = 0; i < 8; i++) {
            for (int k = 0; k < 7; k++) {
                all.append(x.told(i, k)).append(' ').append(x.thought(i, k)).append(' ');
            }
        }
        for (int i = 0; i < 6; i++) {
            all.append(x.field(i, 0)).append(' ').append(x.field(i, 1)).append(' ');
        }
        return all.toString();
    }

    private static HearsaySeeds lively() {
        HearsaySeeds x = new HearsaySeeds();
        x.seed(11);
        x.deal(8);
        for (int i = 0; i < 6; i++) {
            x.sow(i, i + 2);
            x.lets(i, i, 9 - i);
        }
        x.weeks(3);
        return x;
    }

    private static void nothingChanges() {
        HearsaySeeds x = lively();
        x.sheet(0, 0, 24);
        String before = seen(x);
        x.behind(100, 0);
        x.first(0, 0);
        x.ear(0, 1, 60, 0);
        x.fewest(0, 1, 12);
        x.house(0, 60, 0);
        x.becomes(0, 60, 0);
        x.like(0, 0);
        x.fee();
        x.fine(0);
        Due.holds("18 to 26: nothing changes", seen(x).equals(before));
    }

    private static void behind() {
        HearsaySeeds x = lively();
        for (int n : new int[] {0, 1, 7, 50, 100}) {
            HearsaySeeds y = lively();
            if (n > 0) {
                y.weeks(n);
            }
            for (int what = 0; what < 3; what++) {
                due("18: behind " + n, x.behind(n, what), y.county(what));
            }
            for (int field = 0; field < 6; field++) {
                due("18: behind " + n, x.behind(n, 3 + field), y.field(field, 1));
            }
        }
        due("18: n", x.behind(-1, 0), BAD);
        due("18: n", x.behind(101, 0), BAD);
        due("18: what", x.behind(0, -1), BAD);
        due("18: what", x.behind(0, 9), BAD);
    }

    /** A liar hears of field 0 every sixth week, and each time is 1 less sure, until it heeds it. */
    private static HearsaySeeds slow(int sure, int weeks) {
        HearsaySeeds x = new HearsaySeeds();
        x.person(0, 0, 0);
        x.person(3, 1, 5);
        x.person(2, 4, 0);
        x.lets(0, 0, 3);
        x.lets(2, 0, 4);
        x.set(1, 3, 99);
        x.weeks(weeks);
        x.set(1, 3, sure);
        return x;
    }

    private static void first() {
        HearsaySeeds x = slow(4, 5);
        due("19: it grew there latest", x.first(0, 4), 0);
        due("19: the second time", x.first(0, 3), 8);
        due("19: at once", slow(3, 5).first(0, 3), 2);
        due("19: behind 200", slow(36, 5).first(0, 3), 200);
        due("19: 201 is not by then", slow(36, 4).first(0, 3), NONE);
        due("19: not by then", slow(37, 5).first(0, 3), NONE);
        due("19: behind 195", slow(35, 4).first(0, 3), 195);
        due("19: nothing grew", x.first(1, 0), 0);
        due("19: never", x.first(1, 1), NONE);
        due("19: field", x.first(-1, 0), BAD);
        due("19: field", x.first(6, 0), BAD);
        due("19: crop", x.first(0, -1), BAD);
        due("19: crop", x.first(0, 10), BAD);
    }

    private static void ear() {
        HearsaySeeds x = new HearsaySeeds();
        due("20: nobody", x.ear(0, 1, 0, 0), NONE);
        due("20: bad ahead of none", x.ear(0, 0, 0, 0), BAD);
        x.person(0, 0, 0);
        x.person(2, 4, 0);
        x.person(2, 4, 0);
        due("20: of several the least", x.ear(0, 6, 0, 0), 1);
        due("20: votes", x.ear(0, 6, 0, 1), 5);
        x.lets(1, 0, 6);
        due("20: another one", x.ear(0, 6, 0, 0), 2);
        due("20: votes", x.ear(0, 6, 0, 1), 10);
        x.lets(2, 0, 6);
        due("20: the last left", x.ear(0, 6, 0, 0), 0);
        due("20: votes", x.ear(0, 6, 0, 1), 12);
        // Word goes from the neighbour to its neighbours within a week, from the expert to nobody.
        HearsaySeeds y = new HearsaySeeds();
        y.person(2, 4, 0);
        y.person(0, 0, 9);
        y.person(0, 1, 9);
        y.person(0, 7, 9);
        due("20: now", y.ear(1, 6, 0, 0), 0);
        due("20: in a week", y.ear(1, 6, 1, 0), 1);
        due("20: in a week", y.ear(1, 6, 1, 1), 6);
        due("20: n", x.ear(0, 1, -1, 0), BAD);
        due("20: n", x.ear(0, 1, 61, 0), BAD);
        due("20: what", x.ear(0, 1, 0, 2), BAD);
        due("20: what", x.ear(0, 1, 0, -1), BAD);
        due("20: field", x.ear(6, 1, 0, 0), BAD);
        due("20: field", x.ear(-1, 1, 0, 0), BAD);
        due("20: crop", x.ear(0, 10, 0, 0), BAD);
    }

    private static void tellingMakesSure() {
        // Who is told is sure 99: the child beside it does not move it.
        HearsaySeeds x = new HearsaySeeds();
        x.person(5, 0, 0);
        x.person(0, 0, 9);
        due("20: sure 99", x.ear(0, 4, 1, 0), 1);
        due("20: sure 99", x.ear(0, 4, 1, 1), 2);
        due("20: field 1 is heard of by the child", x.ear(1, 4, 1, 1), 3);
    }

    private static void fewest() {
        HearsaySeeds x = new HearsaySeeds();
        due("21: nobody", x.fewest(0, 1, 0), NONE);
        x.person(0, 0, 0);
        x.person(1, 2, 0);
        x.person(3, 4, 0);
        x.lets(0, 0, 2);
        x.lets(1, 0, 2);
        due("21: none need be told", x.fewest(0, 2, 0), 0);
        due("21: the first alone", x.fewest(0, 3, 0), 1);
        due("21: the least crop of equal votes", x.fewest(0, 1, 0), 1);
        x.set(1, 1, 0);
        x.lets(1, 0, 0);
        x.lets(2, 0, 2);
        // 2 has 2 + 3 votes: 1 is one too few, so the third, or the first two.
        due("21: of several the fewest", x.fewest(0, 1, 0), 4);
        HearsaySeeds y = new HearsaySeeds();
        for (int i = 0; i < 4; i++) {
            y.person(0, 2 * i, 0);
            y.lets(i, 0, 2);
        }
        due("21: two of four", y.fewest(0, 1, 0), 3);
        due("21: three of four", y.fewest(0, 3, 0), 7);
        due("21: n", y.fewest(0, 3, 12), 7);
        due("21: n", y.fewest(0, 3, 13), BAD);
        due("21: n", y.fewest(0, 3, -1), BAD);
        due("21: field", y.fewest(6, 3, 0), BAD);
        due("21: field", y.fewest(-1, 3, 0), BAD);
        due("21: crop", y.fewest(0, 0, 0), BAD);
        due("21: crop", y.fewest(0, 10, 0), BAD);
        // All see what is sown from the road in week 0, in the field that the draws from 1 give.
        int one = 1103515245 + 12345;
        int two = one * 1103515245 + 12345;
        HearsaySeeds z = new HearsaySeeds();
        z.person(0, (one >>> 8) % 8, 0);
        z.sow((two >>> 8) % 6, 5);
        due("21: none does", z.fewest((two >>> 8) % 6, 4, 1), NONE);
        due("21: of itself", z.fewest((two >>> 8) % 6, 5, 1), 0);
    }

    private static void house() {
        HearsaySeeds x = new HearsaySeeds();
        x.person(0, 4, 0);
        x.person(0, 0, 5);
        x.lets(0, 0, 4);
        due("22: beside it, the least", x.house(1, 1, 0), 3);
        due("22: weight", x.house(1, 1, 1), 4);
        due("22: all the same to it, the least", x.house(0, 6, 0), 0);
        x.set(0, 1, 0);
        due("22: at it", x.house(1, 1, 0), 0);
        x.lets(0, 0, 0);
        due("22: nothing grows", x.house(1, 60, 0), 0);
        due("22: nothing grows", x.house(1, 60, 1), 0);
        due("22: where it lives", x.told(1, 1), 0);
        due("22: person", x.house(2, 1, 0), BAD);
        due("22: person", x.house(-1, 1, 0), BAD);
        due("22: n", x.house(0, 0, 0), BAD);
        due("22: n", x.house(0, 61, 0), BAD);
        due("22: what", x.house(0, 1, 2), BAD);
        due("22: what", x.house(0, 1, -1), BAD);
    }

    private static void becomes() {
        HearsaySeeds x = new HearsaySeeds();
        x.person(0, 0, 0);
        x.person(0, 1, 5);
        x.lets(0, 0, 3);
        x.sow(0, 4);
        // As a gossip it says 4, and the second, who heeds it, weighs more.
        due("23: a gossip", x.becomes(0, 1, 0), 1);
        due("23: none wrong", x.becomes(0, 1, 1), 0);
        x.lets(0, 0, 4);
        due("23: of several the least", x.becomes(0, 1, 0), 0);
        x.set(1, 1, 4);
        x.lets(0, 0, 3);
        due("23: wrong anyway", x.becomes(0, 1, 0), 0);
        due("23: wrong anyway", x.becomes(0, 1, 1), 1);
        due("23: as it is", x.told(0, 0), 0);
        due("23: person", x.becomes(2, 1, 0), BAD);
        due("23: person", x.becomes(-1, 1, 0), BAD);
        due("23: n", x.becomes(0, 0, 0), BAD);
        due("23: n", x.becomes(0, 61, 0), BAD);
        due("23: what", x.becomes(0, 1, 2), BAD);
        due("23: what", x.becomes(0, 1, -1), BAD);
    }

    private static void like() {
        HearsaySeeds x = new HearsaySeeds();
        due("24: missing", x.like(0, 0), NOTHING);
        due("24: bad ahead of missing", x.like(0, 2), BAD);
        due("24: sheet", x.like(4, 0), BAD);
        due("24: sheet", x.like(-1, 0), BAD);
        due("24: what", x.like(0, -1), BAD);
        x.sheet(0, 1, 0);
        due("24: no places", x.like(0, 0), 0);
        due("24: no places", x.like(0, 1), 0);
        x.person(0, 0, 0);
        x.person(0, 0, 9);
        x.lets(0, 2, 5);
        x.lets(0, 3, 6);
        x.sheet(0, 1, 3);
        x.mark(0, 0, 6);
        x.mark(0, 1, NONE);
        x.mark(0, 2, 6);
        due("24: field", x.like(0, 0), 3);
        due("24: differences", x.like(0, 1), 0);
        x.mark(0, 0, -4);
        x.mark(0, 2, -4);
        due("24: signs left out", x.like(0, 0), 0);
        due("24: signs left out", x.like(0, 1), 8);
        // Of field 1 the first crop is 3 now; behind a week one has heard of 7 from the expert there.
        HearsaySeeds y = new HearsaySeeds();
        y.person(0, 0, 0);
        y.person(2, 1, 0);
        y.person(0, 1, 9);
        y.sow(1, 7);
        y.lets(0, 1, 3);
        y.sheet(0, 0, 3);
        y.mark(0, 0, 3);
        y.mark(0, 1, 3);
        y.mark(0, 2, 3);
        due("24: now and behind", y.like(0, 0), 1);
        due("24: now and behind", y.like(0, 1), Math.abs(3 - firstBehind(y, 1)) + Math.abs(3 - firstBehind(y, 2)));
        y.sheet(0, 0, 24);
        due("24: as many weeks as places", y.like(0, 1), 0);
    }

    private static int firstBehind(HearsaySeeds x, int weeks) {
        x.keep();
        x.weeks(weeks);
        int crop = x.field(1, 2);
        x.back();
        return crop;
    }

    private static void feeAndFine() {
        HearsaySeeds x = new HearsaySeeds();
        x.person(0, 0, 7);
        x.lets(0, 0, 4);
        x.set(0, 3, 31);
        x.weeks(1);
        due("25: without a text: weight", x.fee(), 2);
        due("26: without a text: sure", x.fine(0), 31);
        due("26: person", x.fine(1), BAD);
        due("26: person", x.fine(-1), BAD);
        Due.text(x, "want 3");
        due("25: not of want", x.fee(), 2);
        Due.text(x, "fee w * 1000 + g");
        due("25: of weight and wrong", x.fee(), 2001);
        due("26: not of fee", x.fine(0), 31);
        Due.text(x, "fine t * 1000 - s");
        due("26: of trust and sure", x.fine(0), 6969);
        due("26: person", x.fine(1), BAD);
        Due.text(x, "fee 0 - w");
        due("25: told last, not held within", x.fee(), -2);
        Due.text(x, "fine 9999 * 9999 * 9999");
        due("26: ints wrap", x.fine(0), 9999 * 9999 * 9999);
    }

    public static void main(String[] args) {
        nothingChanges();
        behind();
        first();
        ear();
        tellingMakesSure();
        fewest();
        house();
        becomes();
        like();
        feeAndFine();
        Due.finish();
    }
}
