/** The boundary cases that the document names for promises 1 to 15, a method a sentence, in its order. */
public final class BoundsOfPeopleTest {
    private static final int BAD = Due.BAD, NO = Due.NO, FULL = Due.FULL, NONE = Due.NONE;
    private static final int NOTHING = Due.NOTHING, KIND = Due.KIND;
    private static final int LOW = Integer.MIN_VALUE, HIGH = Integer.MAX_VALUE;
    private static final int NEIGHBOUR = 0, GOSSIP = 1, EXPERT = 2, LIAR = 3, TRADER = 4, CHILD = 5;

    private static void due(String call, int got, int want) {
        Due.due(call, got, want);
    }

    /** So many of one kind, all at place 0, trust 5. */
    private static HearsaySeeds many(int people, int kind) {
        HearsaySeeds x = new HearsaySeeds();
        for (int i = 0; i < people; i++) {
            x.person(kind, 0, 5);
        }
        return x;
    }

    /** One of each kind, as its number. */
    private static HearsaySeeds kinds() {
        HearsaySeeds x = new HearsaySeeds();
        for (int kind = 0; kind < 6; kind++) {
            x.person(kind, 0, 5);
        }
        return x;
    }

    // ---- 1

    private static void fieldsAtFirst() {
        Due.sentence(1, "each SOWN with a CROP (0 .. 9; 0: nothing, at first), with what GREW there latest (a CROP; 0 at first)");
        HearsaySeeds x = new HearsaySeeds();
        for (int field = 0; field < 6; field++) {
            due("sown", x.field(field, 0), 0);
            due("grew", x.field(field, 1), 0);
        }
    }

    private static void countsAtFirst() {
        Due.sentence(1, "WEIGHT, WRONG, CHANGED are 0 at first; THE WEEK is 0 at first");
        HearsaySeeds x = new HearsaySeeds();
        due("weight", x.county(0), 0);
        due("wrong", x.county(1), 0);
        due("changed", x.county(2), 0);
        due("the week", x.count(1), 0);
    }

    private static void lotAtFirst() {
        Due.sentence(1, "z is told (1 at first)");
        due("z", new HearsaySeeds().count(8), 1);
        due("z", new HearsaySeeds().seed(1), 1);
    }

    private static void sheetsAndSlotsAtFirst() {
        Due.sentence(1, "or MISSING (at first)");
        HearsaySeeds x = new HearsaySeeds();
        for (int sheet = 0; sheet < 4; sheet++) {
            due("sheet " + sheet, x.pour(sheet), NOTHING);
        }
        Due.sentence(1, "SLOTS 0 .. 4 each hold nothing (at first)");
        for (int slot = 0; slot < 5; slot++) {
            due("slot " + slot, x.lay(slot, 0, 0), 0);
        }
    }

    private static void noPeople() {
        Due.sentence(1, "no PEOPLE");
        HearsaySeeds x = new HearsaySeeds();
        due("how many", x.count(0), 0);
        due("told", x.told(0, 0), BAD);
        due("as", x.as(0, 0), BAD);
        due("turns", x.turns(0, 0), BAD);
        due("set", x.set(0, 1, 0), BAD);
        due("thought", x.thought(0, 0), BAD);
        due("lets", x.lets(0, 0, 0), BAD);
        due("says", x.says(0, 0), BAD);
        due("heeds", x.heeds(0, 0, 1), BAD);
        due("house", x.house(0, 1, 0), BAD);
        due("becomes", x.becomes(0, 1, 0), BAD);
        due("fine", x.fine(0), BAD);
        due("lay", x.lay(0, 1, 0), BAD);
        due("votes", x.votes(0, 1), 0);
        due("the first crop", x.field(0, 2), 0);
        due("sure of all", x.county(3), 0);
        due("agreed", x.county(4), 0);
        due("ear", x.ear(0, 1, 0, 0), NONE);
        due("fewest", x.fewest(0, 1, 12), NONE);
        due("a week all the same", x.weeks(1), 0);
        due("the week", x.count(1), 1);
        due("keep", x.keep(), 0);
        due("back", x.back(), 0);
    }

    private static void noTextsNoImageNoTape() {
        Due.sentence(1, "As told; no PEOPLE");
        HearsaySeeds x = new HearsaySeeds();
        due("texts", x.count(5), 0);
        for (int key = 0; key < 3; key++) {
            due("no text", x.why(key), NONE);
        }
        due("no image", x.back(), NO);
        due("no number waits", x.count(6), 0);
        due("no byte", x.count(7), 0);
        due("the first number that waits", x.tell(0), 1);
    }

    private static void objectsShareNothing() {
        Due.sentence(1, "As told; no PEOPLE");
        HearsaySeeds x = new HearsaySeeds();
        HearsaySeeds y = new HearsaySeeds();
        x.person(0, 0, 0);
        x.sow(0, 3);
        x.seed(9);
        Due.text(x, "fee 7");
        x.feed(0, 0, 0);
        x.tell(0);
        x.sheet(0, 0, 3);
        x.lay(0, 3, 1);
        x.weeks(1);
        x.keep();
        for (int what = 0; what < 9; what++) {
            due("count " + what, y.count(what), what == 8 ? 1 : 0);
        }
        due("sown", y.field(0, 0), 0);
        due("fee", y.fee(), 0);
        due("sheet", y.reads(0), NOTHING);
        due("slot", y.rest(0, 1), NOTHING);
        due("image", y.back(), NO);
    }

    // ---- 2

    private static void eightAtMost() {
        Due.sentence(2, "PEOPLE, 8 at most, numbered from 0");
        HearsaySeeds x = new HearsaySeeds();
        for (int i = 0; i < 8; i++) {
            due("number", x.person(0, 0, 0), i);
        }
        due("the ninth", x.person(0, 0, 0), FULL);
        due("the tenth", x.person(5, 7, 9), FULL);
        due("how many", x.count(0), 8);
    }

    private static void boundsOfAPerson() {
        Due.sentence(2, "PLACE 0 .. 7 (along the lane, round: beside 7 is 0), TRUST 0 .. 9");
        HearsaySeeds x = new HearsaySeeds();
        for (int odd : new int[] {-1, LOW, HIGH}) {
            due("kind " + odd, x.person(odd, 0, 0), BAD);
            due("place " + odd, x.person(0, odd, 0), BAD);
            due("trust " + odd, x.person(0, 0, odd), BAD);
        }
        due("kind 6", x.person(6, 0, 0), BAD);
        due("place 8", x.person(0, 8, 0), BAD);
        due("trust 10", x.person(0, 0, 10), BAD);
        due("a refused one has no number", x.person(5, 7, 9), 0);
        due("least of all", x.person(0, 0, 0), 1);
        due("kind", x.told(0, 0), 5);
        due("place", x.told(0, 1), 7);
        due("trust", x.told(0, 2), 9);
    }

    private static void badAheadOfFull() {
        Due.sentence(2, "BAD; FULL");
        HearsaySeeds x = many(8, NEIGHBOUR);
        due("kind", x.person(6, 0, 0), BAD);
        due("place", x.person(0, 8, 0), BAD);
        due("trust", x.person(0, 0, 10), BAD);
        due("right", x.person(0, 0, 9), FULL);
    }

    private static void newOnesKnowNothing() {
        Due.sentence(2, "SURE (0 .. 99; 0 at first), THINKS of each FIELD a CROP (0: nothing, at first)");
        HearsaySeeds x = new HearsaySeeds();
        x.keep();
        for (int again = 0; again < 2; again++) {
            x.person(0, 0, 9);
            due("sure", x.told(0, 3), 0);
            for (int field = 0; field < 6; field++) {
                due("thinks", x.thought(0, field), 0);
                x.lets(0, field, 9);
            }
            x.set(0, 3, 99);
            x.back();
        }
    }

    // ---- 3

    private static void whatIsTold() {
        Due.sentence(3, "what 0 KIND, 1 PLACE, 2 TRUST, 3 SURE, 4 what it WEIGHS, 5 FIELDS of which it THINKS something, as a set, 6 who hears it, as a set. BAD");
        HearsaySeeds x = new HearsaySeeds();
        x.person(LIAR, 6, 8);
        x.person(NEIGHBOUR, 5, 0);
        x.set(0, 3, 77);
        x.lets(0, 1, 4);
        int[] want = {3, 6, 8, 77, 3, 2, 2};
        for (int what = 0; what < 7; what++) {
            due("what " + what, x.told(0, what), want[what]);
        }
        for (int odd : new int[] {-1, 7, LOW, HIGH}) {
            due("what " + odd, x.told(0, odd), BAD);
        }
    }

    private static void noSuchPerson() {
        Due.sentence(3, "PEOPLE, 8 at most, numbered from 0");
        for (int people = 0; people <= 8; people++) {
            HearsaySeeds x = many(people, NEIGHBOUR);
            for (int what = 0; what < 7; what++) {
                due("-1 of " + people, x.told(-1, what), BAD);
                due("behind the last of " + people, x.told(people, what), BAD);
            }
            due("far beyond", x.told(HIGH, 0), BAD);
            due("far below", x.told(LOW, 0), BAD);
            due("the last of " + people, x.told(people - 1, 2), people == 0 ? BAD : 5);
        }
    }

    private static void whatEachKindWeighs() {
        Due.sentence(3, "WEIGHS: NEIGHBOUR: 2. GOSSIP: as NEIGHBOUR, less 1. LIAR: as GOSSIP, twice, and 1. EXPERT: as NEIGHBOUR, and 3. TRADER: as EXPERT, less 1. CHILD: 1");
        int[] weighs = {2, 1, 5, 3, 4, 1};
        HearsaySeeds x = kinds();
        for (int kind = 0; kind < 6; kind++) {
            due("kind " + kind, x.told(kind, 4), weighs[kind]);
        }
    }

    private static void fieldsAsASet() {
        Due.sentence(3, "5 FIELDS of which it THINKS something, as a set");
        HearsaySeeds x = many(2, NEIGHBOUR);
        int set = 0;
        for (int field = 0; field < 6; field++) {
            x.lets(0, field, field == 5 ? 9 : 1);
            set += 1 << field;
            due("up to " + field, x.told(0, 5), set);
        }
        due("all six", x.told(0, 5), 63);
        x.lets(0, 5, 0);
        due("0 is nothing", x.told(0, 5), 31);
        due("another one", x.told(1, 5), 0);
    }

    private static void whoHears() {
        Due.sentence(3, "along the lane, round: beside 7 is 0");
        HearsaySeeds x = new HearsaySeeds();
        for (int place = 0; place < 8; place++) {
            x.person(place % 6, place, 0);
        }
        int[] hearers = {128 + 2, 1 + 4, 2 + 8, 4 + 16, 8 + 32, 16 + 64, 32 + 128, 64 + 1};
        for (int place = 0; place < 8; place++) {
            due("at " + place, x.told(place, 6), hearers[place]);
        }
        Due.sentence(3, "all others whose PLACE is the same, or beside it");
        for (int place = 0; place < 8; place++) {
            x.set(place, 1, 3);
        }
        for (int i = 0; i < 8; i++) {
            due("all at one place, but " + i, x.told(i, 6), 255 - (1 << i));
        }
        due("alone, it does not hear itself", many(1, NEIGHBOUR).told(0, 6), 0);
    }

    private static void everyTwoPlaces() {
        Due.sentence(3, "all others whose PLACE is the same, or beside it");
        for (int a = 0; a < 8; a++) {
            HearsaySeeds x = many(2, NEIGHBOUR);
            x.set(0, 1, a);
            for (int off = 0; off < 8; off++) {
                x.set(1, 1, (a + off) % 8);
                boolean near = off == 0 || off == 1 || off == 7;
                due("at " + a + ", heard " + off + " on", x.told(0, 6), near ? 2 : 0);
                due("at " + a + ", hears from " + off + " on", x.told(1, 6), near ? 1 : 0);
            }
        }
    }

    // ---- 4

    private static void underOneAnother() {
        Due.sentence(4, "0 NEIGHBOUR; 1 GOSSIP, 2 EXPERT, 5 CHILD, under NEIGHBOUR; 3 LIAR, under GOSSIP; 4 TRADER, under EXPERT");
        String[] above = {"0", "01", "02", "013", "024", "05"};
        HearsaySeeds x = kinds();
        for (int kind = 0; kind < 6; kind++) {
            x.set(kind, 3, 90 + kind);
            for (int asked = 0; asked < 6; asked++) {
                boolean is = above[kind].indexOf('0' + asked) >= 0;
                due(kind + " as " + asked, x.as(kind, asked), is ? 90 + kind : KIND);
            }
        }
        x.turns(0, LIAR);
        due("by what it is now", x.as(0, GOSSIP), 90);
        due("by what it is now", x.as(0, EXPERT), KIND);
    }

    private static void asOne() {
        Due.sentence(4, "One as one of a KIND: SURE");
        HearsaySeeds x = kinds();
        due("least", x.as(0, 0), 0);
        x.set(0, 3, 99);
        due("most", x.as(0, 0), 99);
        Due.sentence(4, "BAD: person, kind; KIND: it is not of that KIND, nor of one under it");
        for (int odd : new int[] {-1, 6, LOW, HIGH}) {
            due("person " + odd, x.as(odd, 0), BAD);
            due("kind " + odd, x.as(0, odd), BAD);
            due("both " + odd, x.as(odd, odd), BAD);
        }
        due("bad ahead of kind", x.as(6, 5), BAD);
    }

    // ---- 5

    private static void turnsInto() {
        Due.sentence(5, "One is of another KIND from now on: what it was");
        HearsaySeeds x = many(1, NEIGHBOUR);
        x.set(0, 1, 7);
        x.set(0, 3, 99);
        x.lets(0, 5, 9);
        int was = 0;
        for (int kind : new int[] {5, 4, 3, 2, 1, 0, 3}) {
            due("into " + kind, x.turns(0, kind), was);
            due("is", x.told(0, 0), kind);
            due("its place stays", x.told(0, 1), 7);
            due("its trust stays", x.told(0, 2), 5);
            due("its sureness stays", x.told(0, 3), 99);
            due("its thoughts stay", x.thought(0, 5), 9);
            was = kind;
        }
        due("into what it is", x.turns(0, 3), 3);
    }

    private static void turnsRefused() {
        Due.sentence(5, "what it was. BAD");
        HearsaySeeds x = many(2, LIAR);
        for (int odd : new int[] {-1, LOW, HIGH}) {
            due("person " + odd, x.turns(odd, 0), BAD);
            due("kind " + odd, x.turns(0, odd), BAD);
        }
        due("person 2", x.turns(2, 0), BAD);
        due("kind 6", x.turns(1, 6), BAD);
        due("stays", x.told(0, 0), LIAR);
        due("stays", x.told(1, 0), LIAR);
    }

    // ---- 6

    private static void boundsOfSet() {
        Due.sentence(6, "PLACE (what 1), TRUST (2), SURE (3) of one becomes v: what it was");
        int[] most = {0, 7, 9, 99};
        int[] was = {0, 0, 5, 0};
        HearsaySeeds x = many(2, NEIGHBOUR);
        for (int what = 1; what < 4; what++) {
            due("most of " + what, x.set(1, what, most[what]), was[what]);
            due("above " + what, x.set(1, what, most[what] + 1), BAD);
            due("below " + what, x.set(1, what, -1), BAD);
            due("lowest " + what, x.set(1, what, LOW), BAD);
            due("highest " + what, x.set(1, what, HIGH), BAD);
            due("stays " + what, x.told(1, what), most[what]);
            due("least of " + what, x.set(1, what, 0), most[what]);
            due("is " + what, x.told(1, what), 0);
            due("not of another one " + what, x.told(0, what), was[what]);
        }
    }

    private static void setRefused() {
        Due.sentence(6, "what it was. BAD");
        HearsaySeeds x = many(2, NEIGHBOUR);
        for (int odd : new int[] {0, 4, -1, LOW, HIGH}) {
            due("what " + odd, x.set(0, odd, 1), BAD);
        }
        for (int odd : new int[] {2, -1, LOW, HIGH}) {
            due("person " + odd, x.set(odd, 1, 1), BAD);
        }
        due("kind stays", x.told(0, 0), 0);
        due("place stays", x.told(0, 1), 0);
    }

    // ---- 7, 8

    private static void boundsOfThoughts() {
        Due.sentence(7, "What one THINKS of a FIELD. BAD");
        HearsaySeeds x = many(3, NEIGHBOUR);
        x.lets(2, 5, 9);
        x.lets(0, 0, 1);
        due("last of last", x.thought(2, 5), 9);
        due("first of first", x.thought(0, 0), 1);
        due("right beside", x.thought(1, 0), 0);
        due("right beside", x.thought(1, 5), 0);
        due("right beside", x.thought(2, 4), 0);
        for (int odd : new int[] {-1, LOW, HIGH}) {
            due("person " + odd, x.thought(odd, 0), BAD);
            due("field " + odd, x.thought(0, odd), BAD);
        }
        due("person 3", x.thought(3, 0), BAD);
        due("field 6", x.thought(0, 6), BAD);
    }

    private static void boundsOfLets() {
        Due.sentence(8, "It THINKS a CROP (0 .. 9) of a FIELD from now on: which it was. BAD");
        HearsaySeeds x = many(3, NEIGHBOUR);
        due("most", x.lets(2, 5, 9), 0);
        due("above", x.lets(2, 5, 10), BAD);
        due("below", x.lets(2, 5, -1), BAD);
        due("stays", x.thought(2, 5), 9);
        due("least", x.lets(2, 5, 0), 9);
        due("is", x.thought(2, 5), 0);
        due("the first field", x.lets(0, 0, 1), 0);
        for (int odd : new int[] {-1, LOW, HIGH}) {
            due("person " + odd, x.lets(odd, 0, 2), BAD);
            due("field " + odd, x.lets(0, odd, 2), BAD);
            due("crop " + odd, x.lets(0, 0, odd), BAD);
        }
        due("person 3", x.lets(3, 0, 2), BAD);
        due("field 6", x.lets(0, 6, 2), BAD);
        due("stays", x.thought(0, 0), 1);
        due("right beside", x.thought(1, 0), 0);
        due("sure as it was", x.told(0, 3), 0);
        due("changed as it was", x.county(2), 0);
    }

    // ---- 9

    private static void saysOfEachCrop() {
        Due.sentence(9, "GOSSIP: as NEIGHBOUR, and 1 (1 for 9; 0 for 0). LIAR: 10 less as GOSSIP (0 for 0)");
        int[] gossip = {0, 2, 3, 4, 5, 6, 7, 8, 9, 1};
        int[] liar = {0, 8, 7, 6, 5, 4, 3, 2, 1, 9};
        HearsaySeeds x = kinds();
        for (int crop = 0; crop < 10; crop++) {
            x.lets(NEIGHBOUR, 5, crop);
            x.lets(GOSSIP, 5, crop);
            x.lets(LIAR, 5, crop);
            due("neighbour of " + crop, x.says(NEIGHBOUR, 5), crop);
            due("gossip of " + crop, x.says(GOSSIP, 5), gossip[crop]);
            due("liar of " + crop, x.says(LIAR, 5), liar[crop]);
        }
    }

    private static void saysOfTheExpert() {
        Due.sentence(9, "EXPERT: what is SOWN there");
        HearsaySeeds x = kinds();
        x.lets(EXPERT, 5, 3);
        for (int crop = 9; crop >= 0; crop--) {
            x.sow(5, crop);
            due("sown " + crop, x.says(EXPERT, 5), crop);
        }
    }

    private static void saysOfTheTrader() {
        Due.sentence(9, "TRADER: the FIRST CROP there; as EXPERT, if nobody THINKS anything of it");
        HearsaySeeds x = kinds();
        due("nothing at all", x.says(TRADER, 5), 0);
        x.sow(5, 8);
        due("nobody", x.says(TRADER, 5), 8);
        x.lets(NEIGHBOUR, 4, 1);
        due("of another field", x.says(TRADER, 5), 8);
        x.lets(CHILD, 5, 9);
        due("one, of the least weight", x.says(TRADER, 5), 9);
        x.lets(GOSSIP, 5, 7);
        due("of several the least", x.says(TRADER, 5), 7);
        x.lets(CHILD, 5, 0);
        x.lets(GOSSIP, 5, 0);
        due("nobody again", x.says(TRADER, 5), 8);
    }

    private static void saysOfTheChild() {
        Due.sentence(9, "CHILD: 9");
        HearsaySeeds x = kinds();
        for (int field = 0; field < 6; field++) {
            due("knows nothing", x.says(CHILD, field), 9);
        }
        x.lets(CHILD, 0, 3);
        x.sow(0, 4);
        due("knows something", x.says(CHILD, 0), 9);
    }

    private static void saysRefused() {
        Due.sentence(9, "What it SAYS of a FIELD now. BAD");
        HearsaySeeds x = many(3, CHILD);
        for (int odd : new int[] {-1, LOW, HIGH}) {
            due("person " + odd, x.says(odd, 0), BAD);
            due("field " + odd, x.says(0, odd), BAD);
        }
        due("person 3", x.says(3, 0), BAD);
        due("field 6", x.says(0, 6), BAD);
        due("the last", x.says(2, 5), 9);
    }

    // ---- 10

    private static void heedsCrops() {
        Due.sentence(10, "What it HEEDS a CROP (1 .. 9) of a FIELD now. BAD");
        HearsaySeeds x = many(3, NEIGHBOUR);
        due("0", x.heeds(0, 0, 0), BAD);
        due("1", x.heeds(0, 0, 1), 5);
        due("9", x.heeds(2, 5, 9), 5);
        due("10", x.heeds(0, 0, 10), BAD);
        for (int odd : new int[] {-1, LOW, HIGH}) {
            due("person " + odd, x.heeds(odd, 0, 1), BAD);
            due("field " + odd, x.heeds(0, odd, 1), BAD);
            due("crop " + odd, x.heeds(0, 0, odd), BAD);
        }
        due("person 3", x.heeds(3, 0, 1), BAD);
        due("field 6", x.heeds(0, 6, 1), BAD);
    }

    private static void plainWithoutAText() {
        Due.sentence(10, "PLAIN want: what want gives, held within 0 and 99 (without a TEXT: TRUST)");
        HearsaySeeds x = kinds();
        Due.text(x, "fee 50");
        Due.text(x, "fine 50");
        for (int trust = 0; trust < 10; trust++) {
            x.set(NEIGHBOUR, 2, trust);
            x.set(GOSSIP, 2, trust);
            x.set(LIAR, 2, trust);
            due("neighbour", x.heeds(NEIGHBOUR, 0, 1), trust);
            due("gossip", x.heeds(GOSSIP, 0, 1), trust + 3);
            due("liar", x.heeds(LIAR, 0, 1), (trust + 3) / 2);
        }
    }

    private static void plainHeldWithin() {
        Due.sentence(10, "held within 0 and 99");
        String[] wants = {"98", "99", "100", "9999", "1", "0", "0 - 1", "0 - 9999", "9999*9999*99", "9999*9999*9999"};
        int[] plain = {98, 99, 99, 99, 1, 0, 0, 0, 99, 9999 * 9999 * 9999 < 0 ? 0 : 99};
        for (int i = 0; i < wants.length; i++) {
            HearsaySeeds x = kinds();
            Due.text(x, "want " + wants[i]);
            due("neighbour, " + wants[i], x.heeds(NEIGHBOUR, 0, 1), plain[i]);
            due("gossip, " + wants[i], x.heeds(GOSSIP, 0, 1), plain[i] + 3);
            due("liar, " + wants[i], x.heeds(LIAR, 0, 1), (plain[i] + 3) / 2);
            due("expert, " + wants[i], x.heeds(EXPERT, 0, 1), 0);
            due("trader, " + wants[i], x.heeds(TRADER, 0, 1), 0);
            due("child, " + wants[i], x.heeds(CHILD, 0, 1), 99);
        }
    }

    private static void halfIsCut() {
        Due.sentence(10, "LIAR: half (cut) of as GOSSIP");
        int[] half = {1, 2, 2, 3, 3, 4, 4, 5, 5, 6};
        HearsaySeeds x = many(1, LIAR);
        for (int trust = 0; trust < 10; trust++) {
            x.set(0, 2, trust);
            due("trust " + trust, x.heeds(0, 0, 1), half[trust]);
        }
    }

    private static void namesOfWant() {
        Due.sentence(10, "of want t TRUST, n how many PEOPLE THINK that CROP of that FIELD, s SURE, v the CROP");
        HearsaySeeds x = many(8, NEIGHBOUR);
        Due.text(x, "want n");
        for (int i = 0; i < 8; i++) {
            due("so many", x.heeds(0, 5, 9), i);
            x.lets(i, 5, 9);
            x.lets(i, 4, 8);
        }
        due("all eight", x.heeds(0, 5, 9), 8);
        due("of another crop", x.heeds(0, 5, 8), 0);
        Due.text(x, "want v");
        due("the least crop", x.heeds(0, 5, 1), 1);
        due("the most", x.heeds(0, 5, 9), 9);
        Due.text(x, "want s");
        x.set(1, 3, 99);
        due("its own sureness", x.heeds(1, 5, 9), 99);
        due("its own sureness", x.heeds(0, 5, 9), 0);
        Due.text(x, "want t");
        x.set(1, 2, 9);
        due("its own trust", x.heeds(1, 5, 1), 9);
        due("its own trust", x.heeds(0, 5, 1), 5);
    }

    private static void twiceHowMany() {
        Due.sentence(10, "TRADER: as EXPERT, and twice how many PEOPLE THINK that CROP of that FIELD");
        HearsaySeeds x = many(8, TRADER);
        for (int i = 0; i < 8; i++) {
            due("so many", x.heeds(7, 5, 9), 2 * i);
            x.lets(i, 5, 9);
        }
        due("all eight, itself too", x.heeds(7, 5, 9), 16);
        due("of another crop", x.heeds(7, 5, 8), 0);
        due("of another field", x.heeds(7, 4, 9), 0);
    }

    // ---- 11, 12, 13

    private static void boundsOfSow() {
        Due.sentence(11, "A FIELD is SOWN with a CROP: what was SOWN there. BAD");
        HearsaySeeds x = new HearsaySeeds();
        due("most", x.sow(5, 9), 0);
        due("above", x.sow(5, 10), BAD);
        due("below", x.sow(5, -1), BAD);
        due("nothing again", x.sow(5, 0), 9);
        due("the first field", x.sow(0, 1), 0);
        for (int odd : new int[] {6, -1, LOW, HIGH}) {
            due("field " + odd, x.sow(odd, 1), BAD);
        }
        due("lowest crop", x.sow(0, LOW), BAD);
        due("highest crop", x.sow(0, HIGH), BAD);
        due("stays", x.field(0, 0), 1);
        due("right beside", x.field(1, 0), 0);
    }

    private static void boundsOfField() {
        Due.sentence(12, "what 0 what is SOWN, 1 what GREW, 2 THE FIRST CROP, 3 VOTES for that, 4 who THINKS that of it, as a set (0 if that is 0). BAD");
        HearsaySeeds x = many(8, EXPERT);
        x.sow(5, 2);
        for (int what = 1; what < 5; what++) {
            due("nobody thinks, " + what, x.field(5, what), 0);
        }
        for (int i = 0; i < 8; i++) {
            x.lets(i, 5, 9);
        }
        int[] want = {2, 0, 9, 40, 255};
        for (int what = 0; what < 5; what++) {
            due("what " + what, x.field(5, what), want[what]);
        }
        for (int odd : new int[] {-1, LOW, HIGH}) {
            due("field " + odd, x.field(odd, 0), BAD);
            due("what " + odd, x.field(0, odd), BAD);
        }
        due("field 6", x.field(6, 0), BAD);
        due("what 5", x.field(0, 5), BAD);
    }

    private static void theFirstCrop() {
        Due.sentence(12, "the one of most VOTES; of several the least; 0: nobody THINKS anything of it");
        HearsaySeeds x = kinds();
        x.lets(CHILD, 0, 9);
        due("one vote", x.field(0, 2), 9);
        x.lets(GOSSIP, 0, 8);
        due("of several the least", x.field(0, 2), 8);
        due("who", x.field(0, 4), 2);
        x.lets(NEIGHBOUR, 0, 9);
        due("one more", x.field(0, 2), 9);
        due("votes", x.field(0, 3), 3);
        due("who", x.field(0, 4), 33);
        x.lets(LIAR, 0, 1);
        due("as many, and less", x.field(0, 2), 1);
        x.lets(GOSSIP, 0, 9);
        due("one more", x.field(0, 2), 9);
        for (int i = 0; i < 6; i++) {
            x.lets(i, 0, 0);
        }
        due("nobody", x.field(0, 2), 0);
        due("nobody", x.field(0, 4), 0);
    }

    private static void boundsOfVotes() {
        Due.sentence(13, "VOTES for a CROP (1 .. 9) of a FIELD. BAD");
        HearsaySeeds x = many(8, EXPERT);
        for (int i = 0; i < 8; i++) {
            x.lets(i, 5, 9);
            x.lets(i, 0, i < 7 ? 1 : 0);
        }
        due("crop 9", x.votes(5, 9), 40);
        due("crop 1", x.votes(0, 1), 35);
        due("nobody's crop", x.votes(0, 9), 0);
        due("crop 0", x.votes(0, 0), BAD);
        due("crop 10", x.votes(0, 10), BAD);
        for (int odd : new int[] {-1, LOW, HIGH}) {
            due("field " + odd, x.votes(odd, 1), BAD);
            due("crop " + odd, x.votes(0, odd), BAD);
        }
        due("field 6", x.votes(6, 1), BAD);
    }

    // ---- 14, 15

    private static void boundsOfDeal() {
        Due.sentence(14, "PEOPLE are drawn, n (1 .. 8) of them, as many as there is room for (no draws for others): how many came. BAD");
        for (int odd : new int[] {0, 9, -1, LOW, HIGH}) {
            HearsaySeeds x = new HearsaySeeds();
            due("n " + odd, x.deal(odd), BAD);
            due("nobody came", x.count(0), 0);
            due("no draw", x.count(8), 1);
        }
        for (int there = 0; there <= 8; there++) {
            for (int n = 1; n <= 8; n++) {
                HearsaySeeds x = many(there, NEIGHBOUR);
                int come = Math.min(n, 8 - there);
                due(n + " to " + there, x.deal(n), come);
                due("how many then", x.count(0), there + come);
                int z = 1;
                for (int i = 0; i < 3 * come; i++) {
                    z = Road.drawn(z);
                }
                due("draws", x.count(8), z);
            }
        }
        due("bad, also where there is no room", many(8, NEIGHBOUR).deal(9), BAD);
    }

    private static void whatIsDrawn() {
        Due.sentence(14, "KIND the rest of a draw by 6, PLACE that of one more by 8, TRUST that of one more by 10");
        boolean[] seen = new boolean[24];
        for (int v = -40; v < 40; v++) {
            HearsaySeeds x = new HearsaySeeds();
            int z = v * 40503;
            x.seed(z);
            x.deal(8);
            for (int i = 0; i < 8; i++) {
                z = Road.drawn(z);
                int kind = (z >>> 8) % 6;
                due("kind", x.told(i, 0), kind);
                z = Road.drawn(z);
                int place = (z >>> 8) % 8;
                due("place", x.told(i, 1), place);
                z = Road.drawn(z);
                int trust = (z >>> 8) % 10;
                due("trust", x.told(i, 2), trust);
                due("sure", x.told(i, 3), 0);
                due("thinks nothing", x.told(i, 5), 0);
                seen[kind] = true;
                seen[6 + place] = true;
                seen[14 + trust] = true;
            }
            due("z", x.count(8), z);
        }
        for (boolean it : seen) {
            Due.holds("each kind, place and trust came", it);
        }
    }

    private static void drawsWrap() {
        Due.sentence(15, "z becomes z * 1103515245 + 12345 (an int); it gives z >>> 8");
        for (int v : new int[] {0, 1, -1, HIGH, LOW}) {
            HearsaySeeds x = new HearsaySeeds();
            x.seed(v);
            x.weeks(1);
            due("two draws from " + v, x.count(8), (int) ((v * 1103515245L + 12345L) * 1103515245L + 12345L));
        }
    }

    private static void boundsOfSeed() {
        Due.sentence(15, "z becomes v: what it was");
        HearsaySeeds x = new HearsaySeeds();
        int was = 1;
        for (int v : new int[] {0, -1, LOW, HIGH, BAD, NONE, 5}) {
            due("to " + v, x.seed(v), was);
            due("is", x.count(8), v);
            was = v;
        }
    }

    public static void main(String[] args) {
        fieldsAtFirst();
        countsAtFirst();
        lotAtFirst();
        sheetsAndSlotsAtFirst();
        noPeople();
        noTextsNoImageNoTape();
        objectsShareNothing();
        eightAtMost();
        boundsOfAPerson();
        badAheadOfFull();
        newOnesKnowNothing();
        whatIsTold();
        noSuchPerson();
        whatEachKindWeighs();
        fieldsAsASet();
        whoHears();
        everyTwoPlaces();
        underOneAnother();
        asOne();
        turnsInto();
        turnsRefused();
        boundsOfSet();
        setRefused();
        boundsOfThoughts();
        boundsOfLets();
        saysOfEachCrop();
        saysOfTheExpert();
        saysOfTheTrader();
        saysOfTheChild();
        saysRefused();
        heedsCrops();
        plainWithoutAText();
        plainHeldWithin();
        halfIsCut();
        namesOfWant();
        twiceHowMany();
        boundsOfSow();
        boundsOfField();
        theFirstCrop();
        boundsOfVotes();
        boundsOfDeal();
        whatIsDrawn();
        drawsWrap();
        boundsOfSeed();
        Due.finish();
    }
}
