/** Promises 32 to 40: sheets and slots. */
public final class SheetsTest {
    private static final int BAD = Due.BAD, NO = Due.NO, NONE = Due.NONE, NOTHING = Due.NOTHING, KIND = Due.KIND;
    private static final int INDEX = Due.INDEX, SIZE = Due.SIZE;
    private static final int LOW = Integer.MIN_VALUE, HIGH = Integer.MAX_VALUE;

    private static void due(String call, int got, int want) {
        Due.due(call, got, want);
    }

    /** A place of a sheet, through a slot. */
    private static int at(HearsaySeeds x, int sheet, int place) {
        x.lay(4, 2, sheet);
        return x.item(4, place);
    }

    private static void sheet() {
        HearsaySeeds x = new HearsaySeeds();
        due("32: places", x.sheet(0, 0, 24), 24);
        due("32: places", x.sheet(3, 1, 0), 0);
        due("32: sheet", x.sheet(4, 0, 1), BAD);
        due("32: sheet", x.sheet(-1, 0, 1), BAD);
        due("32: sort", x.sheet(0, 2, 1), BAD);
        due("32: sort", x.sheet(0, -2, 1), BAD);
        due("32: above", x.sheet(0, 0, 25), BAD);
        due("32: below", x.sheet(0, 0, -1), SIZE);
        due("32: below", x.sheet(0, 1, LOW), SIZE);
        due("32: bad ahead of size", x.sheet(0, 2, -1), BAD);
        due("32: bad ahead of size", x.sheet(4, 0, -1), BAD);
        due("32: as it was", at(x, 0, 23), 0);
        x.mark(0, 23, 5);
        due("32: anew", x.sheet(0, 0, 24), 24);
        due("32: all 0", at(x, 0, 23), 0);
        due("32: missing", x.sheet(0, -1, 99), 0);
        due("32: missing", x.reads(0), NOTHING);
        due("32: missing, n any", x.sheet(0, -1, -99), 0);
        due("32: missing, bad sheet", x.sheet(4, -1, 0), BAD);
    }

    private static void mark() {
        HearsaySeeds x = new HearsaySeeds();
        due("33: sheet", x.mark(4, 0, 0), BAD);
        due("33: sheet", x.mark(-1, 0, 0), BAD);
        due("33: missing", x.mark(0, -1, NONE), NOTHING);
        x.sheet(0, 0, 3);
        x.sheet(1, 1, 3);
        for (int sheet = 0; sheet < 2; sheet++) {
            due("33: place", x.mark(sheet, 3, 0), INDEX);
            due("33: place", x.mark(sheet, -1, 0), INDEX);
            due("33: index ahead of what v is", x.mark(sheet, 3, NONE), INDEX);
            due("33: index ahead of what v is", x.mark(sheet, LOW, HIGH), INDEX);
        }
        int[] vs = {0, -1, 32767, 32768, 65536, -32769, 99999, HIGH, LOW, BAD};
        for (int v : vs) {
            due("33: of shorts", x.mark(0, 1, v), 1);
            due("33: lowest 16 bits", at(x, 0, 1), (short) v);
        }
        due("33: no number in shorts", x.mark(0, 1, NONE), KIND);
        due("33: floats", x.mark(1, 1, 99999), 1);
        due("33: floats", at(x, 1, 1), 99999);
        due("33: floats", x.mark(1, 1, -99999), 1);
        due("33: above", x.mark(1, 1, 100000), BAD);
        due("33: below", x.mark(1, 1, -100000), BAD);
        due("33: far below", x.mark(1, 1, NONE + 1), BAD);
        due("33: as it was", at(x, 1, 1), -99999);
        due("33: no number", x.mark(1, 1, NONE), 1);
        due("39: no number", at(x, 1, 1), KIND);
        due("33: a number again", x.mark(1, 1, 4), 1);
        due("39: a number again", at(x, 1, 1), 4);
    }

    private static void pour() {
        HearsaySeeds x = new HearsaySeeds();
        due("34: sheet", x.pour(4), BAD);
        due("34: sheet", x.pour(-1), BAD);
        due("34: missing", x.pour(2), NOTHING);
        for (int i = 0; i < 6; i++) {
            x.sow(i, 5);
        }
        x.sheet(2, 1, 4);
        x.mark(2, 0, -3);
        x.mark(2, 1, NONE);
        x.mark(2, 2, 5);
        x.mark(2, 3, 10);
        due("34: otherwise", x.pour(2), 2);
        int[] sown = {0, 5, 5, 9, 5, 5};
        for (int i = 0; i < 6; i++) {
            due("34: sown", x.field(i, 0), sown[i]);
        }
        due("34: again", x.pour(2), 0);
        x.sheet(2, 0, 24);
        x.mark(2, 7, 3);
        x.mark(2, 5, -5);
        due("34: all six", x.pour(2), 5);
        due("34: sown", x.field(5, 0), 0);
        x.sheet(2, 0, 0);
        due("34: no places", x.pour(2), 0);
    }

    private static void reads() {
        HearsaySeeds x = new HearsaySeeds();
        due("35: sheet", x.reads(4), BAD);
        due("35: sheet", x.reads(-1), BAD);
        due("35: missing", x.reads(1), NOTHING);
        x.person(0, 0, 0);
        x.lets(0, 0, 4);
        x.lets(0, 2, 6);
        x.weeks(3);
        x.sheet(1, 1, 6);
        due("35: the first", x.reads(1), 0);
        x.mark(1, 0, 4);
        due("35: the third", x.reads(1), 2);
        x.mark(1, 2, NONE);
        due("35: of numbers alone", x.reads(1), NONE);
        x.mark(1, 5, -1);
        due("35: the last", x.reads(1), 5);
        x.sheet(1, 1, 24);
        x.mark(1, 0, 4);
        x.mark(1, 2, 6);
        due("35: no field", x.reads(1), 6);
        x.mark(1, 6, NONE);
        due("35: no field", x.reads(1), 7);
        for (int i = 6; i < 24; i++) {
            x.mark(1, i, NONE);
        }
        due("35: none", x.reads(1), NONE);
        x.mark(1, 23, 0);
        due("35: the last place", x.reads(1), 23);
        x.sheet(1, 0, 0);
        due("35: no places", x.reads(1), NONE);
    }

    private static void copy() {
        HearsaySeeds x = new HearsaySeeds();
        due("36: from", x.copy(4, 0, 0, 0, 0), BAD);
        due("36: from", x.copy(-1, 0, 0, 0, 0), BAD);
        due("36: to", x.copy(0, 0, 4, 0, 0), BAD);
        due("36: to", x.copy(0, 0, -1, 0, 0), BAD);
        due("36: missing", x.copy(0, 0, 1, 0, 0), NOTHING);
        x.sheet(0, 0, 6);
        due("36: missing", x.copy(0, 0, 1, 0, 0), NOTHING);
        due("36: missing", x.copy(1, 0, 0, 0, 0), NOTHING);
        x.sheet(1, 1, 6);
        due("36: not of one sort", x.copy(0, 0, 1, 0, 0), KIND);
        due("36: kind ahead of index", x.copy(0, -1, 1, 0, -1), KIND);
        x.sheet(2, 0, 4);
        for (int i = 0; i < 6; i++) {
            x.mark(0, i, i + 1);
        }
        due("36: many", x.copy(0, 3, 2, 1, 3), 3);
        int[] two = {0, 4, 5, 6};
        for (int i = 0; i < 4; i++) {
            due("36: came", at(x, 2, i), two[i]);
        }
        due("36: none", x.copy(0, 6, 2, 4, 0), 0);
        due("36: beyond", x.copy(0, 7, 2, 0, 0), INDEX);
        due("36: beyond", x.copy(0, 0, 2, 5, 0), INDEX);
        due("36: beyond", x.copy(0, 4, 2, 0, 3), INDEX);
        due("36: beyond", x.copy(0, 0, 2, 2, 3), INDEX);
        due("36: below", x.copy(0, 0, 2, 0, -1), INDEX);
        due("36: below", x.copy(0, -1, 2, 0, 1), INDEX);
        due("36: below", x.copy(0, 0, 2, -1, 1), INDEX);
        due("36: below", x.copy(0, -1, 2, 0, 0), INDEX);
        due("36: wraps", x.copy(0, 1, 2, 1, HIGH), INDEX);
        due("36: wraps", x.copy(0, HIGH, 2, 1, 1), INDEX);
        due("36: wraps", x.copy(0, 1, 2, HIGH, HIGH), INDEX);
        due("36: wraps", x.copy(0, LOW, 2, LOW, LOW), INDEX);
        due("36: onto itself", x.copy(0, 0, 0, 1, 5), 5);
        int[] moved = {1, 1, 2, 3, 4, 5};
        for (int i = 0; i < 6; i++) {
            due("36: as they were", at(x, 0, i), moved[i]);
        }
        due("36: onto itself", x.copy(0, 2, 0, 0, 4), 4);
        int[] again = {2, 3, 4, 5, 4, 5};
        for (int i = 0; i < 6; i++) {
            due("36: as they were", at(x, 0, i), again[i]);
        }
        x.mark(1, 0, NONE);
        x.mark(1, 1, 7);
        x.sheet(2, 1, 2);
        due("36: floats", x.copy(1, 0, 2, 0, 2), 2);
        due("36: no number", at(x, 2, 0), KIND);
        due("36: a number", at(x, 2, 1), 7);
    }

    private static void lay() {
        HearsaySeeds x = new HearsaySeeds();
        due("37: slot", x.lay(5, 0, 0), BAD);
        due("37: slot", x.lay(-1, 0, 0), BAD);
        due("37: thing", x.lay(0, 4, 0), BAD);
        due("37: thing", x.lay(0, -1, 0), BAD);
        due("37: nobody", x.lay(0, 1, 0), BAD);
        due("37: no sheet", x.lay(0, 2, 4), BAD);
        due("37: no sheet", x.lay(0, 2, -1), BAD);
        due("37: missing", x.lay(0, 2, 0), NOTHING);
        due("37: held nothing", x.lay(0, 3, LOW), 0);
        due("37: held a number", x.lay(0, 3, 5), 3);
        due("37: as it was", x.lay(0, 2, 0), NOTHING);
        due("37: as it was", x.rest(0, 7), 5);
        x.person(1, 0, 0);
        due("37: held a number", x.lay(0, 1, 0), 3);
        due("37: nobody", x.lay(0, 1, 1), BAD);
        due("37: nobody", x.lay(0, 1, -1), BAD);
        x.sheet(0, 0, 2);
        due("37: held one of people", x.lay(0, 2, 0), 1);
        due("37: held a sheet", x.lay(0, 0, 99), 2);
        due("37: held nothing", x.lay(0, 0, LOW), 0);
    }

    private static void ask() {
        HearsaySeeds x = new HearsaySeeds();
        int[] weighs = {2, 1, 5, 3, 4, 1};
        String[] under = {"0", "01", "02", "013", "024", "05"};
        due("38: slot", x.ask(5, 0), BAD);
        due("38: slot", x.ask(-1, 0), BAD);
        due("38: kind", x.ask(0, 6), BAD);
        due("38: kind", x.ask(0, -1), BAD);
        due("38: nothing", x.ask(0, 0), NOTHING);
        x.lay(0, 3, 1);
        due("38: a number", x.ask(0, 0), KIND);
        x.sheet(0, 0, 1);
        x.lay(0, 2, 0);
        due("38: a sheet", x.ask(0, 0), KIND);
        for (int kind = 0; kind < 6; kind++) {
            x.person(kind, 0, 0);
            x.lay(kind % 5, 1, kind);
            x.turns(kind, 5 - kind);
            for (int asked = 0; asked < 6; asked++) {
                boolean is = under[kind].indexOf('0' + asked) >= 0;
                due("38: " + kind + " as " + asked, x.ask(kind % 5, asked), is ? weighs[kind] : KIND);
            }
        }
    }

    private static void itemAndRest() {
        HearsaySeeds x = new HearsaySeeds();
        due("39: slot", x.item(5, 0), BAD);
        due("39: slot", x.item(-1, 0), BAD);
        due("39: nothing", x.item(0, -1), NOTHING);
        due("40: slot", x.rest(5, 1), BAD);
        due("40: slot", x.rest(-1, 0), BAD);
        due("40: nothing", x.rest(0, 0), NOTHING);
        x.sheet(0, 0, 2);
        x.mark(0, 1, 8);
        x.lay(0, 2, 0);
        x.mark(0, 1, 9);
        x.sheet(0, -1, 0);
        due("39: a row of its own", x.item(0, 1), 8);
        due("39: place", x.item(0, 2), INDEX);
        due("39: place", x.item(0, -1), INDEX);
        due("40: a sheet", x.rest(0, 0), KIND);
        x.lay(1, 3, -7);
        due("39: a number", x.item(1, 9), KIND);
        due("40: rest", x.rest(1, 3), -1);
        due("40: rest", x.rest(1, -3), -1);
        due("40: rest", x.rest(1, 7), 0);
        due("40: by 0", x.rest(1, 0), NO);
        x.lay(1, 3, LOW);
        due("40: rest", x.rest(1, -1), 0);
        due("40: rest", x.rest(1, HIGH), -1);
        due("40: rest", x.rest(1, LOW), 0);
        x.lay(1, 3, HIGH);
        due("40: rest", x.rest(1, LOW), HIGH);
        x.person(0, 0, 0);
        x.lay(1, 1, 0);
        due("39: one of people", x.item(1, 0), KIND);
        due("40: one of people", x.rest(1, 0), KIND);
    }

    public static void main(String[] args) {
        sheet();
        mark();
        pour();
        reads();
        copy();
        lay();
        ask();
        itemAndRest();
        Due.finish();
    }
}
