/** The boundary cases that the document names for promises 41 to 45, a method a sentence. */
public final class BoundsOfImagesTest {
    private static final int BAD = Due.BAD, NO = Due.NO, FULL = Due.FULL, NONE = Due.NONE;
    private static final int LOW = Integer.MIN_VALUE, HIGH = Integer.MAX_VALUE;

    private static void due(String call, int got, int want) {
        Due.due(call, got, want);
    }

    /** Eight people by lot, all of whom are told many things. */
    private static HearsaySeeds lively(int lot) {
        HearsaySeeds x = new HearsaySeeds();
        x.seed(lot);
        x.deal(8);
        for (int i = 0; i < 6; i++) {
            x.sow(i, 9 - i);
            x.lets(i, i, i + 1);
            x.lets(7, i, 9 - i);
        }
        return x;
    }

    /** WEIGHT and CHANGED behind each of so many weeks from now on, through the calls that change. */
    private static int[] weeksTold(HearsaySeeds x, int weeks) {
        int[] row = new int[2 * weeks];
        for (int i = 0; i < weeks; i++) {
            x.weeks(1);
            row[2 * i] = x.count(2);
            row[2 * i + 1] = x.count(4);
        }
        return row;
    }

    private static void tellAll(HearsaySeeds x, int[] row, int many) {
        for (int i = 0; i < many; i++) {
            x.tell(row[i]);
        }
    }

    // ---- 41

    private static void sixtyWait() {
        Due.sentence(41, "One more number waits: how many. FULL: 60 wait");
        HearsaySeeds x = new HearsaySeeds();
        int[] vs = {0, -1, LOW, HIGH, BAD, NONE};
        for (int i = 1; i <= 60; i++) {
            due("the number " + i, x.tell(vs[i % 6]), i);
            due("wait", x.count(6), i);
        }
        due("one more", x.tell(0), FULL);
        due("and one", x.tell(1), FULL);
        due("sixty", x.count(6), 60);
        x.check(1);
        due("from 1 on again", x.tell(0), 1);
    }

    private static void fullKeepsThem() {
        Due.sentence(41, "FULL: 60 wait");
        HearsaySeeds x = lively(3);
        int[] row = weeksTold(lively(3), 30);
        x.keep();
        tellAll(x, row, 60);
        due("one more", x.tell(row[59] + 1), FULL);
        due("as they were", x.check(30), 0);
    }

    // ---- 42

    private static void boundsOfN() {
        Due.sentence(42, "are THE WEEKS TOLD of n (1 .. 30; fewer, if THE WEEK would be above 9999), two by two: 0");
        int[] row = weeksTold(lively(4), 30);
        for (int n = 1; n <= 30; n++) {
            HearsaySeeds x = lively(4);
            x.keep();
            tellAll(x, row, 2 * n);
            due("n " + n, x.check(n), 0);
        }
        for (int n : new int[] {0, 31, -1, LOW, HIGH}) {
            HearsaySeeds x = lively(4);
            x.keep();
            tellAll(x, row, 60);
            due("n " + n, x.check(n), BAD);
        }
    }

    private static void firstThatIsNot() {
        Due.sentence(42, "else 1 and how many stand right ahead of the first that is not (or is missing, or one too many)");
        int[] row = weeksTold(lively(5), 30);
        for (int off = 0; off < 60; off++) {
            HearsaySeeds x = lively(5);
            x.keep();
            for (int i = 0; i < 60; i++) {
                x.tell(row[i] + (i == off ? 1 : i > off && i % 3 == 0 ? -1 : 0));
            }
            due("the number at " + off + " is not", x.check(30), 1 + off);
        }
    }

    private static void missingOrTooMany() {
        Due.sentence(42, "(or is missing, or one too many)");
        int[] row = weeksTold(lively(6), 30);
        for (int n : new int[] {1, 2, 29, 30}) {
            for (int many : new int[] {0, 1, 2 * n - 1, 2 * n, 2 * n + 1, 2 * n + 2, 60}) {
                if (many > 60) {
                    continue;
                }
                HearsaySeeds x = lively(6);
                x.keep();
                tellAll(x, row, many);
                due(many + " of " + 2 * n, x.check(n), many == 2 * n ? 0 : 1 + Math.min(many, 2 * n));
            }
        }
        HearsaySeeds x = lively(6);
        x.keep();
        x.tell(row[0]);
        x.tell(row[1] - 1);
        x.tell(row[2]);
        due("one that is not stands ahead of one too many", x.check(1), 2);
    }

    private static void twoByTwo() {
        Due.sentence(42, "THE WEEKS TOLD: of n WEEKS, one behind the other, by THE IMAGE: WEIGHT; CHANGED, behind each");
        HearsaySeeds x = lively(7);
        int[] row = weeksTold(lively(7), 4);
        Due.holds("weight and changed are not the same", row[0] != row[1]);
        x.keep();
        x.tell(row[1]);
        x.tell(row[0]);
        due("the other way round", x.check(1), 1);
        x.tell(row[0]);
        x.tell(row[2]);
        due("weights first", x.check(2), 2);
        x.tell(0);
        x.tell(0);
        due("ahead of the week", x.check(1), 1);
        tellAll(x, row, 8);
        due("right", x.check(4), 0);
    }

    private static void byTheImage() {
        Due.sentence(42, "one behind the other, by THE IMAGE");
        HearsaySeeds x = lively(8);
        int[] row = weeksTold(lively(8), 10);
        x.keep();
        x.weeks(5);
        x.seed(99);
        x.turns(0, 5);
        x.sow(0, 1);
        Due.text(x, "want 99");
        for (int i = 0; i < 3; i++) {
            tellAll(x, row, 20);
            due("as it was kept, again and again", x.check(10), 0);
        }
        due("nothing else changes", x.count(1), 5);
        due("nothing else changes", x.count(8), 99);
        int[] later = weeksTold(back(x), 3);
        tellAll(x, later, 6);
        due("as it was kept", x.check(3), 0);
        x.keep();
        tellAll(x, later, 6);
        due("not the image before", x.check(3), 1);
    }

    private static HearsaySeeds back(HearsaySeeds x) {
        x.back();
        return x;
    }

    private static void fewerAtTheEnd() {
        Due.sentence(42, "fewer, if THE WEEK would be above 9999");
        for (int left = 0; left <= 3; left++) {
            for (int n : new int[] {1, 2, 3, 30}) {
                int due = Math.min(n, left);
                for (int more = due == 0 ? 0 : -1; more <= 1; more++) {
                    HearsaySeeds x = lateAlone(left);
                    int weight = x.count(2);
                    x.keep();
                    for (int i = 0; i < 2 * due + more; i++) {
                        x.tell(i % 2 == 0 ? weight + i + 2 : 0);
                    }
                    due(left + " left, n " + n + ", numbers " + (2 * due + more), x.check(n), more == 0 ? 0 : 1 + 2 * due + Math.min(more, 0));
                }
            }
        }
    }

    /** One alone who thinks something of all fields: 2 more by each week; so many weeks ahead of the last. */
    private static HearsaySeeds lateAlone(int left) {
        HearsaySeeds x = new HearsaySeeds();
        for (int i = 0; i < 99; i++) {
            x.weeks(100);
        }
        x.person(0, 0, 0);
        for (int field = 0; field < 6; field++) {
            x.lets(0, field, 5);
        }
        x.weeks(99 - left);
        return x;
    }

    private static void noneWaitThen() {
        Due.sentence(42, "The numbers that wait (none do then, whatever is answered)");
        HearsaySeeds x = lively(9);
        for (int n : new int[] {0, 31, LOW}) {
            x.tell(1);
            due("bad", x.check(n), BAD);
            due("none wait", x.count(6), 0);
        }
        x.tell(1);
        due("no image", x.check(1), NO);
        due("none wait", x.count(6), 0);
        x.keep();
        x.tell(LOW);
        due("it is not", x.check(1), 1);
        due("none wait", x.count(6), 0);
        due("missing", x.check(1), 1);
        due("none wait", x.count(6), 0);
        int[] row = weeksTold(x, 1);
        tellAll(x, row, 2);
        due("right", x.check(1), 0);
        due("none wait", x.count(6), 0);
        due("missing now", x.check(1), 1);
        int[] more = weeksTold(back(x), 2);
        tellAll(x, more, 3);
        x.tell(more[3] + 1);
        due("the fourth is not", x.check(2), 4);
        tellAll(x, more, 2);
        due("the third is missing, whatever waited before", x.check(2), 3);
        due("the first is missing, whatever waited before", x.check(2), 1);
    }

    private static void badAheadOfNo() {
        Due.sentence(42, "BAD; NO: there is no IMAGE");
        HearsaySeeds x = new HearsaySeeds();
        due("n 0", x.check(0), BAD);
        due("n 31", x.check(31), BAD);
        due("n 1", x.check(1), NO);
        due("n 30", x.check(30), NO);
    }

    // ---- 43, 44

    private static void howManyKept() {
        Due.sentence(43, "AN IMAGE is kept: how many PEOPLE");
        HearsaySeeds x = new HearsaySeeds();
        for (int people = 0; people <= 8; people++) {
            due("kept", x.keep(), people);
            due("kept again", x.keep(), people);
            due("back", x.back(), people);
            due("people", x.count(0), people);
            x.person(0, 0, 0);
        }
        Due.sentence(44, "All is as THE IMAGE: how many PEOPLE");
        due("eight", x.back(), 8);
    }

    private static void noImage() {
        Due.sentence(44, "NO: there is none");
        HearsaySeeds x = lively(1);
        due("none", x.back(), NO);
        due("as it was", x.count(0), 8);
        x.keep();
        due("one", x.back(), 8);
    }

    private static void allButThese() {
        Due.sentence(44, "AN IMAGE keeps all but SHEETS, SLOTS, numbers that wait, THE TAPE");
        HearsaySeeds x = lively(2);
        x.weeks(2);
        Due.text(x, "want t + 3");
        x.keep();
        String kept = Look.at(x);
        change(x);
        due("back", x.back(), 8);
        due("numbers wait", x.count(6), 2);
        due("bytes", x.count(7), 12);
        due("a slot", x.rest(0, 100), 77);
        due("a sheet", x.pour(1), 1);
        x.trim(0);
        x.check(1);
        x.lay(0, 0, 0);
        due("back", x.back(), 8);
        Due.holds("all else as it was kept", Look.at(x).equals(kept));
    }

    private static void change(HearsaySeeds x) {
        x.turns(0, (x.told(0, 0) + 1) % 6);
        x.set(1, 1, (x.told(1, 1) + 1) % 8);
        x.set(2, 2, (x.told(2, 2) + 1) % 10);
        x.set(3, 3, (x.told(3, 3) + 1) % 100);
        x.lets(4, 4, (x.thought(4, 4) + 1) % 10);
        x.sow(5, 1);
        x.weeks(12);
        x.seed(5);
        Due.text(x, "fee 9");
        x.tell(1);
        x.tell(2);
        x.feed(0, 0, 0);
        x.lay(0, 3, 77);
        x.sheet(1, 0, 1);
        x.mark(1, 0, 3);
    }

    private static void againAndAgain() {
        Due.sentence(44, "all can become as it is (again and again)");
        HearsaySeeds x = lively(3);
        x.keep();
        String kept = Look.at(x);
        for (int i = 1; i <= 2; i++) {
            x.weeks(10 * i);
            x.turns(i, 5);
            x.back();
            x.back();
        }
        Due.holds("as it was kept", Look.at(x).equals(kept));
        HearsaySeeds y = lively(3);
        y.keep();
        int[] row = weeksTold(y, 12);
        y.back();
        int[] again = weeksTold(y, 12);
        for (int i = 0; i < 24; i++) {
            due("gone on from", again[i], row[i]);
        }
    }

    private static void peopleWhoCameSince() {
        Due.sentence(44, "All is as THE IMAGE");
        HearsaySeeds x = new HearsaySeeds();
        x.deal(3);
        x.keep();
        for (int again = 0; again < 3; again++) {
            due("five more", x.deal(8), 5);
            due("full", x.person(0, 0, 0), FULL);
            x.set(7, 3, 99);
            x.lets(7, 5, 9);
            due("three", x.back(), 3);
            due("the fourth is gone", x.told(3, 0), BAD);
            due("room again", x.person(0, 0, 0), 3);
            due("as new", x.told(3, 3), 0);
            due("as new", x.told(3, 5), 0);
            x.back();
        }
    }

    private static void textsToldSince() {
        Due.sentence(44, "AN IMAGE keeps all but SHEETS, SLOTS, numbers that wait, THE TAPE");
        HearsaySeeds x = new HearsaySeeds();
        for (int i = 0; i < 13; i++) {
            Due.text(x, i % 2 == 0 ? "fee " + i : "want " + i);
        }
        x.keep();
        for (int again = 1; again <= 3; again++) {
            due("one more", Due.text(x, "fee 1+" + again), 13);
            due("it counts", x.fee(), 1 + again);
            due("it counts", x.why(1), 13);
            due("full", Due.text(x, "fee 7"), FULL);
            x.back();
            due("thirteen", x.count(5), 13);
            due("no such text", x.textTold(13, 0), BAD);
            due("the one before counts", x.why(1), 12);
            due("the one before counts", x.fee(), 12);
            due("its numbers", x.textTold(12, 1), 1);
            due("another key's", x.why(0), 11);
        }
        HearsaySeeds y = new HearsaySeeds();
        y.keep();
        Due.text(y, "fine 5");
        y.back();
        due("no text for the key", y.why(2), NONE);
        y.person(0, 0, 0);
        due("sure", y.fine(0), 0);
        due("the first text", Due.text(y, "fee 6"), 0);
        due("of its own key", y.textTold(0, 0), 1);
    }

    private static void theNewestImage() {
        Due.sentence(44, "All is as THE IMAGE");
        HearsaySeeds x = new HearsaySeeds();
        x.sow(0, 1);
        x.keep();
        x.sow(0, 2);
        x.keep();
        x.sow(0, 3);
        x.back();
        due("the one kept last", x.field(0, 0), 2);
        x.back();
        due("the one kept last", x.field(0, 0), 2);
    }

    private static void lawsOfTheImage() {
        Due.sentence(44, "All is as THE IMAGE");
        HearsaySeeds x = new HearsaySeeds();
        x.person(0, 0, 4);
        Due.text(x, "want 40");
        x.keep();
        Due.text(x, "want 50");
        due("told last", x.heeds(0, 0, 1), 50);
        x.back();
        due("as it was kept", x.heeds(0, 0, 1), 40);
        Due.text(x, "want 60");
        due("told last", x.heeds(0, 0, 1), 60);
        x.back();
        due("as it was kept", x.heeds(0, 0, 1), 40);
    }

    // ---- 45

    private static void boundsOfCount() {
        Due.sentence(45, "0 how many PEOPLE, 1 THE WEEK, 2 WEIGHT, 3 WRONG, 4 CHANGED, 5 TEXTS, 6 numbers that wait, 7 bytes of THE TAPE, 8 z. BAD");
        HearsaySeeds x = new HearsaySeeds();
        x.person(5, 0, 0);
        x.person(0, 0, 9);
        x.person(0, 0, 9);
        x.person(0, 4, 9);
        x.weeks(5);
        for (int i = 0; i < 2; i++) {
            Due.text(x, "fee 1");
        }
        for (int i = 0; i < 6; i++) {
            x.tell(0);
        }
        x.feed(0, 0, 0);
        x.trim(8);
        x.seed(-8);
        // Two heed the child in weeks 0, 2 and 4, and in the last of them one tells it so.
        int[] want = {4, 5, 12, 3, 7, 2, 6, 8, -8};
        for (int what = 0; what < 9; what++) {
            due("what " + what, x.count(what), want[what]);
        }
        for (int odd : new int[] {-1, 9, LOW, HIGH}) {
            due("what " + odd, x.count(odd), BAD);
        }
    }

    public static void main(String[] args) {
        sixtyWait();
        fullKeepsThem();
        boundsOfN();
        firstThatIsNot();
        missingOrTooMany();
        twoByTwo();
        byTheImage();
        fewerAtTheEnd();
        noneWaitThen();
        badAheadOfNo();
        howManyKept();
        noImage();
        allButThese();
        againAndAgain();
        peopleWhoCameSince();
        textsToldSince();
        theNewestImage();
        lawsOfTheImage();
        boundsOfCount();
        Due.finish();
    }
}
