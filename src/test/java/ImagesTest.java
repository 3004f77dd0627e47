/** Promises 41 to 45: rows told, images, counts. */
public final class ImagesTest {
    private static final int BAD = Due.BAD, NO = Due.NO, FULL = Due.FULL;

    private static void due(String call, int got, int want) {
        Due.due(call, got, want);
    }

    /** Alone, thinking something of each field: WEIGHT is 2 more by every week, CHANGED stays. */
    private static HearsaySeeds alone() {
        HearsaySeeds x = new HearsaySeeds();
        x.person(0, 0, 0);
        for (int field = 0; field < 6; field++) {
            x.lets(0, field, 5);
        }
        return x;
    }

    private static void tell() {
        HearsaySeeds x = new HearsaySeeds();
        for (int i = 1; i <= 60; i++) {
            due("41: how many", x.tell(i), i);
        }
        due("41: full", x.tell(0), FULL);
        due("41: sixty wait", x.count(6), 60);
        due("42: bad", x.check(0), BAD);
        due("42: none wait then", x.count(6), 0);
        x.tell(1);
        due("42: bad ahead of no image", x.check(31), BAD);
        due("42: none wait then", x.count(6), 0);
        x.tell(1);
        due("42: no image", x.check(1), NO);
        due("42: none wait then", x.count(6), 0);
    }

    private static void tellAll(HearsaySeeds x, int... row) {
        for (int v : row) {
            x.tell(v);
        }
    }

    private static void check() {
        HearsaySeeds x = alone();
        due("43: people", x.keep(), 1);
        x.weeks(4);
        tellAll(x, 2, 0);
        due("42: one week", x.check(1), 0);
        due("42: none wait then", x.count(6), 0);
        tellAll(x, 2, 0, 4, 0, 6, 0);
        due("42: three weeks", x.check(3), 0);
        tellAll(x, 3, 0);
        due("42: the first is not", x.check(1), 1);
        tellAll(x, 2, 1);
        due("42: the second is not", x.check(1), 2);
        tellAll(x, 2, 0, 4, 0, 6, 7);
        due("42: the sixth is not", x.check(3), 6);
        due("42: the first is missing", x.check(1), 1);
        tellAll(x, 2);
        due("42: the second is missing", x.check(1), 2);
        tellAll(x, 2, 0, 4);
        due("42: the fourth is missing", x.check(2), 4);
        tellAll(x, 2, 0, 4);
        due("42: one too many", x.check(1), 3);
        tellAll(x, 2, 0, 4, 0);
        due("42: two too many", x.check(1), 3);
        tellAll(x, 2, 1, 4, 0);
        due("42: wrong and too many", x.check(1), 2);
        for (int i = 1; i <= 30; i++) {
            tellAll(x, 2 * i, 0);
        }
        due("42: thirty", x.check(30), 0);
        due("42: nothing changes", x.count(1), 4);
        due("42: nothing changes", x.count(2), 8);
    }

    private static void checkAtTheEnd() {
        HearsaySeeds x = alone();
        for (int i = 0; i < 100; i++) {
            x.weeks(100);
        }
        due("16: the last week", x.count(1), 9999);
        x.keep();
        due("42: no week is left", x.check(5), 0);
        x.tell(1);
        due("42: one too many", x.check(5), 1);
        HearsaySeeds y = alone();
        for (int i = 0; i < 99; i++) {
            y.weeks(100);
        }
        y.weeks(97);
        y.keep();
        int weight = y.count(2);
        tellAll(y, weight + 2, 0, weight + 4, 0);
        due("42: two weeks are left", y.check(30), 0);
        tellAll(y, weight + 2, 0, weight + 4, 0, weight + 6, 0);
        due("42: two weeks are left", y.check(30), 5);
    }

    private static void image() {
        HearsaySeeds x = new HearsaySeeds();
        due("44: none", x.back(), NO);
        x.seed(3);
        x.deal(4);
        x.sow(1, 6);
        x.lets(2, 1, 7);
        x.weeks(9);
        Due.text(x, "want 20");
        Due.text(x, "fee 1");
        due("43: people", x.keep(), 4);
        String kept = FutureTest.seen(x);
        x.deal(3);
        x.turns(0, 5);
        x.set(1, 1, 6);
        x.set(1, 2, 1);
        x.set(1, 3, 88);
        x.sow(1, 2);
        x.sow(2, 2);
        x.lets(3, 3, 3);
        x.weeks(20);
        Due.text(x, "fee 2");
        Due.text(x, "fine 3");
        Due.text(x, "want 4");
        x.sheet(0, 0, 3);
        x.mark(0, 1, 5);
        x.lay(0, 3, 42);
        due("44: people", x.back(), 4);
        Due.holds("44: as it was kept", FutureTest.seen(x).equals(kept));
        due("44: texts", x.count(5), 2);
        due("44: which counts", x.why(0), 0);
        due("44: which counts", x.why(1), 1);
        due("44: which counts", x.why(2), Due.NONE);
        due("44: fee", x.fee(), 1);
        due("44: no such text", x.textTold(2, 0), BAD);
        due("44: sheets stay", x.pour(0), 1);
        due("44: slots stay", x.rest(0, 100), 42);
        x.tell(1);
        x.feed(0x66656520, 0x37202020, 0x20202020);
        due("44: again", x.back(), 4);
        due("44: numbers wait still", x.count(6), 1);
        due("44: the tape stays", x.count(7), 12);
        due("44: the tape stays", x.text(), 2);
        due("44: fee", x.fee(), 7);
        due("44: again and again", x.back(), 4);
        due("42: the number that waited is not the first", x.check(1), 1);
        Due.holds("44: as it was kept", FutureTest.seen(x).equals(kept));
        due("44: new ones are as new", x.person(0, 0, 0), 4);
        due("44: new ones are as new", x.told(4, 3), 0);
        due("44: new ones are as new", x.told(4, 5), 0);
        due("43: the newest image", x.keep(), 5);
        due("44: the newest image", x.back(), 5);
    }

    /** The image's own laws and lots count for the weeks told, not those that came later. */
    private static void imageLaws() {
        HearsaySeeds x = new HearsaySeeds();
        x.seed(5);
        x.deal(6);
        x.lets(0, 0, 3);
        x.lets(1, 1, 4);
        Due.text(x, "want 30 - s");
        x.keep();
        int[] row = new int[20];
        for (int i = 0; i < 20; i++) {
            x.weeks(1);
            if (i < 10) {
                row[2 * i] = x.count(2);
                row[2 * i + 1] = x.count(4);
            }
        }
        Due.text(x, "want 0");
        x.seed(99);
        tellAll(x, row);
        due("42: by the image", x.check(10), 0);
    }

    private static void count() {
        HearsaySeeds x = alone();
        x.weeks(3);
        x.tell(4);
        x.feed(0, 0, 0);
        x.sheet(0, 0, 1);
        int[] want = {1, 3, 6, 3, 0, 0, 1, 12};
        for (int what = 0; what < 8; what++) {
            due("45: count " + what, x.count(what), want[what]);
        }
        x.seed(-5);
        due("45: z", x.count(8), -5);
        due("45: what", x.count(9), BAD);
        due("45: what", x.count(-1), BAD);
        due("45: what", x.count(Integer.MIN_VALUE), BAD);
    }

    public static void main(String[] args) {
        tell();
        check();
        checkAtTheEnd();
        image();
        imageLaws();
        count();
        Due.finish();
    }
}
