/** The boundary cases that the document names for promises 32 to 40, a method a sentence. */
public final class BoundsOfSheetsTest {
    private static final int BAD = Due.BAD, NO = Due.NO, NONE = Due.NONE, NOTHING = Due.NOTHING, KIND = Due.KIND;
    private static final int INDEX = Due.INDEX, SIZE = Due.SIZE;
    private static final int LOW = Integer.MIN_VALUE, HIGH = Integer.MAX_VALUE;
    private static final int SHORTS = 0, FLOATS = 1, MISSING = -1;
    private static final int LAY_NOTHING = 0, LAY_ONE = 1, LAY_SHEET = 2, LAY_NUMBER = 3;

    private static void due(String call, int got, int want) {
        Due.due(call, got, want);
    }

    /** A place of a sheet, through the last slot. */
    private static int at(HearsaySeeds x, int sheet, int place) {
        x.lay(4, LAY_SHEET, sheet);
        int v = x.item(4, place);
        x.lay(4, LAY_NOTHING, 0);
        return v;
    }

    private static void row(String what, HearsaySeeds x, int sheet, int... want) {
        for (int place = 0; place < want.length; place++) {
            due(what + ", place " + place, at(x, sheet, place), want[place]);
        }
        due(what + ", behind the last", at(x, sheet, want.length), INDEX);
    }

    private static HearsaySeeds withSheet(int sort, int... places) {
        HearsaySeeds x = new HearsaySeeds();
        x.sheet(0, sort, places.length);
        for (int place = 0; place < places.length; place++) {
            x.mark(0, place, places[place]);
        }
        return x;
    }

    // ---- 32

    private static void placesOfASheet() {
        Due.sentence(32, "with 0 to 24 places");
        for (int sheet = 0; sheet < 4; sheet++) {
            for (int sort = SHORTS; sort <= FLOATS; sort++) {
                HearsaySeeds x = new HearsaySeeds();
                due("below", x.sheet(sheet, sort, -1), SIZE);
                due("above", x.sheet(sheet, sort, 25), BAD);
                due("still missing", x.pour(sheet), NOTHING);
                for (int n : new int[] {0, 1, 23, 24}) {
                    due("n " + n, x.sheet(sheet, sort, n), n);
                    due("the last", x.mark(sheet, n - 1, 1), n == 0 ? INDEX : 1);
                    due("behind the last", x.mark(sheet, n, 1), INDEX);
                }
            }
        }
    }

    private static void sheetRefused() {
        Due.sentence(32, "BAD: sheet, sort, n above 24; SIZE");
        HearsaySeeds x = withSheet(SHORTS, 3, 4);
        for (int odd : new int[] {-1, 4, LOW, HIGH}) {
            due("sheet " + odd, x.sheet(odd, 0, 1), BAD);
            due("sheet " + odd + ", to be missing", x.sheet(odd, MISSING, 1), BAD);
            due("bad sheet ahead of size", x.sheet(odd, 0, -1), BAD);
        }
        for (int odd : new int[] {-2, 2, LOW, HIGH}) {
            due("sort " + odd, x.sheet(0, odd, 1), BAD);
            due("bad sort ahead of size", x.sheet(0, odd, -1), BAD);
        }
        due("far above", x.sheet(0, 0, HIGH), BAD);
        due("far below", x.sheet(0, 0, LOW), SIZE);
        row("as it was", x, 0, 3, 4);
    }

    private static void missingAgain() {
        Due.sentence(32, "(sort -1: MISSING, n any): n (0)");
        for (int n : new int[] {0, 1, -1, 24, 25, LOW, HIGH}) {
            HearsaySeeds x = withSheet(FLOATS, 3, 4);
            due("n " + n, x.sheet(0, MISSING, n), 0);
            due("missing", x.reads(0), NOTHING);
            due("missing already", x.sheet(0, MISSING, n), 0);
            due("missing", x.mark(0, 0, 0), NOTHING);
        }
    }

    private static void allZero() {
        Due.sentence(32, "A SHEET becomes a row of n places of a sort, all 0");
        HearsaySeeds x = withSheet(FLOATS, 1, NONE, 3, -4);
        x.sheet(0, SHORTS, 4);
        row("of another sort", x, 0, 0, 0, 0, 0);
        x.mark(0, 3, 9);
        x.sheet(0, SHORTS, 2);
        row("shorter", x, 0, 0, 0);
        x.sheet(0, SHORTS, 4);
        row("longer again", x, 0, 0, 0, 0, 0);
        x.mark(0, 3, 9);
        x.sheet(0, MISSING, 0);
        x.sheet(0, FLOATS, 4);
        row("missing and back", x, 0, 0, 0, 0, 0);
        due("floats now", x.mark(0, 0, NONE), 1);
        due("another sheet is not touched", x.reads(1), NOTHING);
    }

    // ---- 33

    private static void lowest16Bits() {
        Due.sentence(33, "of shorts its lowest 16 bits");
        int[] vs = {0, 1, -1, 32767, 32768, -32768, -32769, 65535, 65536, 65537, 99999, 100000, HIGH, LOW, NONE + 1, NONE - 1, BAD, SIZE};
        for (int v : vs) {
            HearsaySeeds x = withSheet(SHORTS, 5, 5, 5);
            due("v " + v, x.mark(0, 1, v), 1);
            row("v " + v, x, 0, 5, (short) v, 5);
        }
        due("32768", at(withSheet(SHORTS, 32768), 0, 0), -32768);
        due("65535", at(withSheet(SHORTS, 65535), 0, 0), -1);
    }

    private static void noNumberInShorts() {
        Due.sentence(33, "KIND: NONE in a row of shorts");
        HearsaySeeds x = withSheet(SHORTS, 5);
        due("none", x.mark(0, 0, NONE), KIND);
        row("as it was", x, 0, 5);
    }

    private static void floatsHeld() {
        Due.sentence(33, "of floats v, -99999 .. 99999; NONE: NO NUMBER): 1");
        for (int v : new int[] {99999, -99999, 99998, -99998, 0, 65536, -1, 16777}) {
            HearsaySeeds x = withSheet(FLOATS, 5, 5);
            due("v " + v, x.mark(0, 1, v), 1);
            row("v " + v, x, 0, 5, v);
        }
        Due.sentence(33, "BAD: v of floats");
        for (int v : new int[] {100000, -100000, HIGH, LOW, NONE + 1, NONE - 1, BAD, KIND}) {
            HearsaySeeds x = withSheet(FLOATS, 5, 5);
            due("v " + v, x.mark(0, 1, v), BAD);
            row("as it was", x, 0, 5, 5);
        }
    }

    private static void noNumber() {
        Due.sentence(33, "A place of floats may be NO NUMBER");
        HearsaySeeds x = withSheet(FLOATS, 5, 5);
        due("none", x.mark(0, 0, NONE), 1);
        row("no number", x, 0, KIND, 5);
        due("again", x.mark(0, 0, NONE), 1);
        due("a number again", x.mark(0, 0, -99999), 1);
        row("a number", x, 0, -99999, 5);
    }

    private static void markRefused() {
        Due.sentence(33, "BAD: sheet; NOTHING; INDEX; KIND: NONE in a row of shorts; BAD: v of floats");
        HearsaySeeds x = withSheet(SHORTS, 5, 5);
        x.sheet(1, FLOATS, 2);
        x.sheet(2, SHORTS, 0);
        for (int odd : new int[] {-1, 4, LOW, HIGH}) {
            due("sheet " + odd, x.mark(odd, 0, 0), BAD);
            due("sheet ahead of all", x.mark(odd, -1, NONE), BAD);
        }
        due("missing", x.mark(3, 0, 0), NOTHING);
        due("missing ahead of index", x.mark(3, -1, NONE), NOTHING);
        due("missing ahead of v", x.mark(3, 0, HIGH), NOTHING);
        for (int odd : new int[] {-1, 2, LOW, HIGH}) {
            due("place " + odd, x.mark(0, odd, 1), INDEX);
            due("index ahead of kind", x.mark(0, odd, NONE), INDEX);
            due("place " + odd, x.mark(1, odd, 1), INDEX);
            due("index ahead of v", x.mark(1, odd, 100000), INDEX);
        }
        due("no places", x.mark(2, 0, 1), INDEX);
        due("no places", x.mark(2, -1, 1), INDEX);
        row("as it was", x, 0, 5, 5);
        row("as it was", x, 1, 0, 0);
    }

    // ---- 34

    private static void pourHeldWithin() {
        Due.sentence(34, "each held within 0 and 9; NO NUMBER, and beyond the SHEET: it stays");
        HearsaySeeds x = withSheet(FLOATS, -1, 0, 9, 10, 99999, -99999);
        due("otherwise", x.pour(0), 3);
        int[] sown = {0, 0, 9, 9, 9, 0};
        for (int field = 0; field < 6; field++) {
            due("field " + field, x.field(field, 0), sown[field]);
        }
        HearsaySeeds y = withSheet(SHORTS, 32767, -32768, 1, 8, 9, 65535);
        for (int field = 0; field < 6; field++) {
            y.sow(field, 5);
        }
        due("otherwise", y.pour(0), 6);
        int[] then = {9, 0, 1, 8, 9, 0};
        for (int field = 0; field < 6; field++) {
            due("field " + field, y.field(field, 0), then[field]);
        }
    }

    private static void pourBeyond() {
        Due.sentence(34, "beyond the SHEET: it stays");
        for (int n : new int[] {0, 1, 5, 6, 7, 24}) {
            HearsaySeeds x = new HearsaySeeds();
            for (int field = 0; field < 6; field++) {
                x.sow(field, 5);
            }
            x.sheet(3, SHORTS, n);
            due("n " + n, x.pour(3), Math.min(n, 6));
            for (int field = 0; field < 6; field++) {
                due("n " + n + ", field " + field, x.field(field, 0), field < n ? 0 : 5);
            }
        }
    }

    private static void pourNoNumber() {
        Due.sentence(34, "NO NUMBER, and beyond the SHEET: it stays");
        HearsaySeeds x = withSheet(FLOATS, NONE, 1, NONE, 1, 1, NONE);
        for (int field = 0; field < 6; field++) {
            x.sow(field, 5);
        }
        due("otherwise", x.pour(0), 3);
        for (int field = 0; field < 6; field++) {
            due("field " + field, x.field(field, 0), field == 0 || field == 2 || field == 5 ? 5 : 1);
        }
    }

    private static void howManyOtherwise() {
        Due.sentence(34, "how many are otherwise then");
        HearsaySeeds x = withSheet(FLOATS, 10, -1, 3, 3, NONE, 0);
        x.sow(0, 9);
        x.sow(1, 0);
        x.sow(2, 3);
        x.sow(3, 4);
        x.sow(4, 7);
        due("one alone", x.pour(0), 1);
        due("then none", x.pour(0), 0);
    }

    private static void pourRefused() {
        Due.sentence(34, "how many are otherwise then. BAD; NOTHING");
        HearsaySeeds x = withSheet(SHORTS, 1);
        for (int odd : new int[] {-1, 4, LOW, HIGH}) {
            due("sheet " + odd, x.pour(odd), BAD);
        }
        for (int sheet = 1; sheet < 4; sheet++) {
            due("missing " + sheet, x.pour(sheet), NOTHING);
        }
        due("nothing sown", x.field(0, 0), 0);
        due("the first", x.pour(0), 1);
    }

    // ---- 35

    /** A county where 1, 2, .. 6 grew in its fields. */
    private static HearsaySeeds grown(int sort, int... places) {
        HearsaySeeds x = withSheet(sort, places);
        x.person(0, 0, 0);
        for (int field = 0; field < 6; field++) {
            x.lets(0, field, field + 1);
        }
        x.weeks(6);
        return x;
    }

    private static void firstThatIsNot() {
        Due.sentence(35, "The first place (of numbers alone) at which a SHEET is not what GREW in that FIELD");
        due("all six", grown(SHORTS, 1, 2, 3, 4, 5, 6).reads(0), NONE);
        for (int place = 0; place < 6; place++) {
            int[] places = {1, 2, 3, 4, 5, 6};
            places[place] = 9;
            places[5] = place == 5 ? 9 : 7;
            due("place " + place, grown(SHORTS, places).reads(0), place);
            places[place] = NONE;
            due("no number at " + place, grown(FLOATS, places).reads(0), place == 5 ? NONE : 5);
        }
        due("one above", grown(FLOATS, 2).reads(0), 0);
        due("one below", grown(FLOATS, 0).reads(0), 0);
        due("shorter", grown(SHORTS, 1, 2).reads(0), NONE);
        due("no places", grown(SHORTS).reads(0), NONE);
        due("not what is sown", grown(FLOATS, 1, 2).pour(0), 2);
    }

    private static void placesThatAreNoField() {
        Due.sentence(35, "of places that are no FIELD all numbers are not");
        due("0 is a number", grown(SHORTS, 1, 2, 3, 4, 5, 6, 0).reads(0), 6);
        due("a crop is a number", grown(FLOATS, 1, 2, 3, 4, 5, 6, 1).reads(0), 6);
        due("no number is none", grown(FLOATS, 1, 2, 3, 4, 5, 6, NONE).reads(0), NONE);
        due("the one behind it", grown(FLOATS, 1, 2, 3, 4, 5, 6, NONE, 0).reads(0), 7);
        int[] last = new int[24];
        for (int i = 0; i < 24; i++) {
            last[i] = i < 6 ? i + 1 : i < 23 ? NONE : 0;
        }
        due("the last place of all", grown(FLOATS, last).reads(0), 23);
    }

    private static void readsRefused() {
        Due.sentence(35, "BAD; NOTHING; NONE: there is none");
        HearsaySeeds x = withSheet(SHORTS, 0);
        for (int odd : new int[] {-1, 4, LOW, HIGH}) {
            due("sheet " + odd, x.reads(odd), BAD);
        }
        for (int sheet = 1; sheet < 4; sheet++) {
            due("missing " + sheet, x.reads(sheet), NOTHING);
        }
        due("none", x.reads(0), NONE);
    }

    // ---- 36

    private static HearsaySeeds two() {
        HearsaySeeds x = withSheet(SHORTS, 1, 2, 3, 4, 5);
        x.sheet(1, SHORTS, 3);
        for (int i = 0; i < 3; i++) {
            x.mark(1, i, 7 + i);
        }
        return x;
    }

    private static void placesCopied() {
        Due.sentence(36, "So many places of a SHEET come to another one (or the same), as they were: many");
        for (int place = -1; place <= 6; place++) {
            for (int at = -1; at <= 4; at++) {
                for (int many = -1; many <= 6; many++) {
                    HearsaySeeds x = two();
                    boolean right = many >= 0 && place >= 0 && at >= 0 && place + many <= 5 && at + many <= 3;
                    String how = "from " + place + " to " + at + ", " + many;
                    due(how, x.copy(0, place, 1, at, many), right ? many : INDEX);
                    int[] then = {7, 8, 9};
                    for (int i = 0; i < many && right; i++) {
                        then[at + i] = 1 + place + i;
                    }
                    row(how, x, 1, then);
                }
            }
        }
    }

    private static void whereNoneComes() {
        Due.sentence(36, "INDEX: many is below 0, or it would go beyond their last places (where none comes, it may begin right behind these)");
        HearsaySeeds x = two();
        x.sheet(2, SHORTS, 0);
        x.sheet(3, SHORTS, 24);
        due("right behind both", x.copy(0, 5, 1, 3, 0), 0);
        due("one further", x.copy(0, 6, 1, 3, 0), INDEX);
        due("one further", x.copy(0, 5, 1, 4, 0), INDEX);
        due("ahead of the first", x.copy(0, -1, 1, 0, 0), INDEX);
        due("ahead of the first", x.copy(0, 0, 1, -1, 0), INDEX);
        due("no places", x.copy(2, 0, 2, 0, 0), 0);
        due("no places", x.copy(2, 1, 2, 0, 0), INDEX);
        due("no places", x.copy(2, 0, 1, 0, 1), INDEX);
        due("no places", x.copy(1, 0, 2, 0, 1), INDEX);
        due("24 places", x.copy(3, 24, 3, 24, 0), 0);
        due("24 places", x.copy(3, 25, 3, 24, 0), INDEX);
        due("24 places", x.copy(3, 0, 3, 0, 24), 24);
        due("24 places", x.copy(3, 0, 3, 0, 25), INDEX);
        due("24 places", x.copy(3, 1, 3, 0, 24), INDEX);
        row("as it was", x, 1, 7, 8, 9);
    }

    private static void sumsThatWrap() {
        Due.sentence(36, "INDEX: many is below 0, or it would go beyond their last places");
        HearsaySeeds x = two();
        int[] odd = {HIGH, LOW, HIGH - 1, LOW + 1};
        for (int v : odd) {
            due("many " + v, x.copy(0, 1, 1, 1, v), INDEX);
            due("from " + v, x.copy(0, v, 1, 0, 1), INDEX);
            due("to " + v, x.copy(0, 0, 1, v, 1), INDEX);
            for (int w : odd) {
                due("from and many " + v + " " + w, x.copy(0, v, 1, 0, w), INDEX);
                due("to and many " + v + " " + w, x.copy(0, 0, 1, v, w), INDEX);
            }
        }
        row("as it was", x, 1, 7, 8, 9);
    }

    private static void rowsThatOverlap() {
        Due.sentence(36, "come to another one (or the same), as they were");
        for (int place = 0; place <= 5; place++) {
            for (int at = 0; at <= 5; at++) {
                for (int many = 0; many <= 5 - Math.max(place, at); many++) {
                    HearsaySeeds x = two();
                    String how = "within itself from " + place + " to " + at + ", " + many;
                    due(how, x.copy(0, place, 0, at, many), many);
                    int[] then = {1, 2, 3, 4, 5};
                    for (int i = 0; i < many; i++) {
                        then[at + i] = 1 + place + i;
                    }
                    row(how, x, 0, then);
                }
            }
        }
    }

    private static void floatsCopied() {
        Due.sentence(36, "as they were: many");
        HearsaySeeds x = withSheet(FLOATS, NONE, 99999, -99999, NONE);
        x.sheet(3, FLOATS, 4);
        due("many", x.copy(0, 0, 3, 0, 4), 4);
        row("no numbers too", x, 3, KIND, 99999, -99999, KIND);
        row("whence they came", x, 0, KIND, 99999, -99999, KIND);
    }

    private static void copyRefused() {
        Due.sentence(36, "BAD; NOTHING; KIND: they are not of one sort; INDEX");
        HearsaySeeds x = two();
        x.sheet(2, FLOATS, 5);
        for (int odd : new int[] {-1, 4, LOW, HIGH}) {
            due("from " + odd, x.copy(odd, 0, 0, 0, 1), BAD);
            due("to " + odd, x.copy(0, 0, odd, 0, 1), BAD);
            due("bad ahead of nothing", x.copy(odd, 0, 3, 0, 1), BAD);
            due("bad ahead of nothing", x.copy(3, 0, odd, 0, 1), BAD);
            due("bad ahead of index", x.copy(odd, -1, 0, -1, -1), BAD);
        }
        due("missing", x.copy(3, 0, 0, 0, 1), NOTHING);
        due("missing", x.copy(0, 0, 3, 0, 1), NOTHING);
        due("missing, itself", x.copy(3, 0, 3, 0, 0), NOTHING);
        due("nothing ahead of index", x.copy(3, -1, 0, -1, -1), NOTHING);
        due("not of one sort", x.copy(0, 0, 2, 0, 1), KIND);
        due("not of one sort", x.copy(2, 0, 0, 0, 1), KIND);
        due("not of one sort, where none comes", x.copy(2, 0, 0, 0, 0), KIND);
        due("kind ahead of index", x.copy(0, 9, 2, 9, 9), KIND);
        due("kind ahead of index", x.copy(0, 0, 2, 0, -1), KIND);
        row("as it was", x, 0, 1, 2, 3, 4, 5);
        row("as it was", x, 2, 0, 0, 0, 0, 0);
    }

    // ---- 37

    private static void whatItHeld() {
        Due.sentence(37, "thing 0 nothing, 1 one of PEOPLE, k, 2 SHEET k, 3 the number k: what it held (0 .. 3)");
        for (int slot = 0; slot < 5; slot++) {
            for (int was = 0; was < 4; was++) {
                for (int then = 0; then < 4; then++) {
                    HearsaySeeds x = two();
                    x.person(2, 0, 0);
                    due("at first", x.lay(slot, was, 0), 0);
                    due("held", x.lay(slot, then, 0), was);
                    due("holds", x.lay(slot, 0, 0), then);
                    due("holds nothing", x.lay(slot, 0, 0), 0);
                }
            }
        }
    }

    private static void slotsByThemselves() {
        Due.sentence(37, "SLOTS 0 .. 4 each hold nothing (at first), one of PEOPLE (as it is then, for good), a SHEET (a row of its own, as it was then), or a number");
        HearsaySeeds x = two();
        x.person(3, 0, 0);
        x.person(5, 0, 0);
        x.lay(0, LAY_SHEET, 0);
        x.lay(1, LAY_SHEET, 1);
        x.lay(2, LAY_ONE, 0);
        x.lay(3, LAY_ONE, 1);
        x.lay(4, LAY_NUMBER, 123);
        x.mark(0, 0, 99);
        x.sheet(1, MISSING, 0);
        x.turns(0, 4);
        x.turns(1, 4);
        due("a row of its own", x.item(0, 0), 1);
        due("a row of its own", x.item(1, 2), 9);
        due("a row of its own", x.item(1, 3), INDEX);
        due("as it was then", x.ask(2, 1), 3);
        due("as it was then", x.ask(3, 5), 1);
        due("a number", x.rest(4, 1000), 123);
        x.lay(0, LAY_SHEET, 0);
        due("as it is by now", x.item(0, 0), 99);
        due("the others stay", x.item(1, 0), 7);
    }

    private static void whateverK() {
        Due.sentence(37, "BAD: slot, thing, k; NOTHING: that SHEET is MISSING");
        HearsaySeeds x = two();
        x.person(0, 0, 0);
        x.person(0, 0, 0);
        for (int k : new int[] {-1, 0, 5, LOW, HIGH, NONE}) {
            due("nothing, k " + k, x.lay(0, LAY_NOTHING, k), 0);
            due("a number, k " + k, x.lay(0, LAY_NUMBER, k), 0);
            due("it is k", x.rest(0, LOW), k == LOW ? 0 : k);
            x.lay(0, LAY_NOTHING, k);
        }
        x.lay(0, LAY_NUMBER, 55);
        for (int odd : new int[] {-1, LOW, HIGH}) {
            due("slot " + odd, x.lay(odd, LAY_NOTHING, 0), BAD);
            due("thing " + odd, x.lay(0, odd, 0), BAD);
            due("one, k " + odd, x.lay(0, LAY_ONE, odd), BAD);
            due("sheet, k " + odd, x.lay(0, LAY_SHEET, odd), BAD);
            due("slot ahead of missing", x.lay(odd, LAY_SHEET, 3), BAD);
        }
        due("slot 5", x.lay(5, LAY_NOTHING, 0), BAD);
        due("slot 5 ahead of missing", x.lay(5, LAY_SHEET, 3), BAD);
        due("thing 4", x.lay(0, 4, 0), BAD);
        due("one, k 2", x.lay(0, LAY_ONE, 2), BAD);
        due("sheet, k 4", x.lay(0, LAY_SHEET, 4), BAD);
        due("missing", x.lay(0, LAY_SHEET, 2), NOTHING);
        due("missing, the last", x.lay(0, LAY_SHEET, 3), NOTHING);
        due("as it was", x.rest(0, 100), 55);
        due("the last of people", x.lay(0, LAY_ONE, 1), 3);
        due("a row without places", x.sheet(3, FLOATS, 0), 0);
        due("can be laid", x.lay(0, LAY_SHEET, 3), 1);
        due("it has no place", x.item(0, 0), INDEX);
    }

    // ---- 38

    private static void takenForAKind() {
        Due.sentence(38, "What the one of PEOPLE in a SLOT WEIGHS, taken for one of a KIND (0 .. 5)");
        int[] weighs = {2, 1, 5, 3, 4, 1};
        String[] above = {"0", "01", "02", "013", "024", "05"};
        for (int slot = 0; slot < 5; slot++) {
            HearsaySeeds x = new HearsaySeeds();
            for (int kind = 0; kind < 6; kind++) {
                x.person(kind, 0, 0);
                x.lay(slot, LAY_ONE, kind);
                for (int asked = 0; asked < 6; asked++) {
                    boolean is = above[kind].indexOf('0' + asked) >= 0;
                    due(kind + " as " + asked, x.ask(slot, asked), is ? weighs[kind] : KIND);
                }
            }
        }
    }

    private static void forGood() {
        Due.sentence(38, "one of PEOPLE (as it is then, for good)");
        HearsaySeeds x = new HearsaySeeds();
        x.keep();
        x.person(3, 0, 0);
        x.lay(0, LAY_ONE, 0);
        x.turns(0, 2);
        due("as it was then", x.ask(0, 1), 3);
        due("not as it is now", x.ask(0, 2), KIND);
        due("nobody lives there now", x.back(), 0);
        due("as it was then", x.ask(0, 3), 3);
    }

    private static void askRefused() {
        Due.sentence(38, "BAD; NOTHING; KIND: it is none of PEOPLE, or not of that KIND, nor of one under it");
        HearsaySeeds x = two();
        x.person(0, 0, 0);
        for (int odd : new int[] {-1, LOW, HIGH}) {
            due("slot " + odd, x.ask(odd, 0), BAD);
            due("kind " + odd, x.ask(0, odd), BAD);
        }
        due("slot 5", x.ask(5, 0), BAD);
        due("kind 6, ahead of nothing", x.ask(0, 6), BAD);
        for (int slot = 0; slot < 5; slot++) {
            due("nothing", x.ask(slot, 0), NOTHING);
        }
        x.lay(0, LAY_SHEET, 0);
        due("a sheet", x.ask(0, 0), KIND);
        due("kind 6, ahead of kind", x.ask(0, 6), BAD);
        x.lay(0, LAY_NUMBER, 0);
        due("a number", x.ask(0, 0), KIND);
        x.lay(0, LAY_ONE, 0);
        due("not of that kind", x.ask(0, 1), KIND);
        due("kind 6", x.ask(0, 6), BAD);
        x.lay(0, LAY_NOTHING, 0);
        due("nothing again", x.ask(0, 0), NOTHING);
    }

    // ---- 39

    private static void placesOfAnItem() {
        Due.sentence(39, "BAD: slot; NOTHING; KIND: it is no SHEET; INDEX; KIND: NO NUMBER");
        for (int slot = 0; slot < 5; slot++) {
            HearsaySeeds x = withSheet(FLOATS, 99999, NONE, -99999);
            x.person(0, 0, 0);
            due("nothing", x.item(slot, 0), NOTHING);
            due("nothing ahead of index", x.item(slot, -1), NOTHING);
            x.lay(slot, LAY_ONE, 0);
            due("one of people", x.item(slot, 0), KIND);
            due("kind ahead of index", x.item(slot, -1), KIND);
            x.lay(slot, LAY_NUMBER, 0);
            due("a number", x.item(slot, 0), KIND);
            due("kind ahead of index", x.item(slot, 24), KIND);
            x.lay(slot, LAY_SHEET, 0);
            due("the first", x.item(slot, 0), 99999);
            due("no number", x.item(slot, 1), KIND);
            due("the last", x.item(slot, 2), -99999);
            for (int odd : new int[] {-1, 3, 24, LOW, HIGH}) {
                due("place " + odd, x.item(slot, odd), INDEX);
            }
            x.lay(slot, LAY_NOTHING, 0);
            due("nothing again", x.item(slot, 0), NOTHING);
        }
        HearsaySeeds x = new HearsaySeeds();
        for (int odd : new int[] {-1, 5, LOW, HIGH}) {
            due("slot " + odd, x.item(odd, 0), BAD);
            due("slot ahead of index", x.item(odd, -1), BAD);
        }
    }

    private static void longestItem() {
        Due.sentence(39, "A place of the SHEET in a SLOT");
        HearsaySeeds x = new HearsaySeeds();
        x.sheet(0, SHORTS, 24);
        for (int i = 0; i < 24; i++) {
            x.mark(0, i, i * 1000);
        }
        x.lay(2, LAY_SHEET, 0);
        for (int i = 0; i < 24; i++) {
            due("place " + i, x.item(2, i), i * 1000);
        }
        due("place 24", x.item(2, 24), INDEX);
        x.sheet(0, SHORTS, 2);
        x.lay(2, LAY_SHEET, 0);
        due("a shorter one", x.item(2, 2), INDEX);
    }

    // ---- 40

    private static void restOfANumber() {
        Due.sentence(40, "The rest of the number in a SLOT by n");
        int[] numbers = {0, 1, -1, 7, -7, HIGH, LOW};
        int[] by = {1, -1, 2, -2, 3, -3, 7, -7, 8, HIGH, LOW};
        for (int slot = 0; slot < 5; slot++) {
            HearsaySeeds x = new HearsaySeeds();
            for (int number : numbers) {
                x.lay(slot, LAY_NUMBER, number);
                for (int n : by) {
                    due(number + " by " + n, x.rest(slot, n), (int) ((long) number - (long) number / n * n));
                }
                due(number + " by 0", x.rest(slot, 0), NO);
            }
        }
    }

    private static void restRefused() {
        Due.sentence(40, "BAD: slot; NOTHING; KIND: it is no number; NO: n is 0");
        HearsaySeeds x = two();
        x.person(0, 0, 0);
        for (int odd : new int[] {-1, 5, LOW, HIGH}) {
            due("slot " + odd, x.rest(odd, 1), BAD);
            due("slot ahead of 0", x.rest(odd, 0), BAD);
        }
        for (int slot = 0; slot < 5; slot++) {
            due("nothing", x.rest(slot, 1), NOTHING);
            due("nothing ahead of 0", x.rest(slot, 0), NOTHING);
            x.lay(slot, LAY_ONE, 0);
            due("one of people", x.rest(slot, 1), KIND);
            due("kind ahead of 0", x.rest(slot, 0), KIND);
            x.lay(slot, LAY_SHEET, 0);
            due("a sheet", x.rest(slot, 1), KIND);
            due("kind ahead of 0", x.rest(slot, 0), KIND);
        }
    }

    public static void main(String[] args) {
        placesOfASheet();
        sheetRefused();
        missingAgain();
        allZero();
        lowest16Bits();
        noNumberInShorts();
        floatsHeld();
        noNumber();
        markRefused();
        pourHeldWithin();
        pourBeyond();
        pourNoNumber();
        howManyOtherwise();
        pourRefused();
        firstThatIsNot();
        placesThatAreNoField();
        readsRefused();
        placesCopied();
        whereNoneComes();
        sumsThatWrap();
        rowsThatOverlap();
        floatsCopied();
        copyRefused();
        whatItHeld();
        slotsByThemselves();
        whateverK();
        takenForAKind();
        forGood();
        askRefused();
        placesOfAnItem();
        longestItem();
        restOfANumber();
        restRefused();
        Due.finish();
    }
}
