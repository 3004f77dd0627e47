/** The boundary cases that the document names for promises 18 to 26, a method a sentence. */
public final class BoundsOfFutureTest {
    private static final int BAD = Due.BAD, NONE = Due.NONE, NOTHING = Due.NOTHING;
    private static final int LOW = Integer.MIN_VALUE, HIGH = Integer.MAX_VALUE;
    private static final int NEIGHBOUR = 0, GOSSIP = 1, EXPERT = 2, CHILD = 5;

    private static void due(String call, int got, int want) {
        Due.due(call, got, want);
    }

    /** Eight people by lot who think and say different things, a few weeks on. */
    private static HearsaySeeds lively(int lot) {
        HearsaySeeds x = new HearsaySeeds();
        x.seed(lot);
        x.deal(8);
        for (int i = 0; i < 6; i++) {
            x.sow(i, (i * 5 + lot) % 10);
            x.lets(i, i, 9 - i);
            x.lets(7 - i, i, i + 1);
        }
        x.weeks(2);
        return x;
    }

    /** In the last week, nobody having lived there till now. */
    private static HearsaySeeds atTheEnd() {
        HearsaySeeds x = new HearsaySeeds();
        for (int i = 0; i < 100; i++) {
            x.weeks(100);
        }
        return x;
    }

    private static void passes(HearsaySeeds x, int weeks) {
        if (weeks > 0) {
            x.weeks(weeks);
        }
    }

    // ---- 18

    private static void boundsOfBehind() {
        Due.sentence(18, "BEHIND n (0 .. 100) WEEKS: what 0 WEIGHT, 1 WRONG, 2 CHANGED; 3 and k: what GREW in FIELD k. BAD");
        for (int n : new int[] {0, 1, 2, 6, 99, 100}) {
            HearsaySeeds x = lively(11);
            HearsaySeeds y = lively(11);
            passes(y, n);
            for (int what = 0; what < 3; what++) {
                due("n " + n + ", what " + what, x.behind(n, what), y.county(what));
            }
            for (int field = 0; field < 6; field++) {
                due("n " + n + ", field " + field, x.behind(n, 3 + field), y.field(field, 1));
            }
        }
        HearsaySeeds x = lively(11);
        for (int odd : new int[] {-1, LOW, HIGH}) {
            due("n " + odd, x.behind(odd, 0), BAD);
            due("what " + odd, x.behind(0, odd), BAD);
        }
        due("n 101", x.behind(101, 0), BAD);
        due("what 9", x.behind(0, 9), BAD);
    }

    private static void nothingChanges() {
        Due.sentence(18, "All that follows is only thought, z as it is, without the bound of THE WEEK: nothing changes");
        String before = Look.whole(rows(lively(12)));
        for (int which = 0; which < 9; which++) {
            HearsaySeeds x = rows(lively(12));
            thinks(x, which);
            Due.holds("call " + which + " changes nothing", Look.whole(x).equals(before));
        }
    }

    private static HearsaySeeds rows(HearsaySeeds x) {
        x.keep();
        x.sheet(0, 1, 24);
        x.mark(0, 3, 7);
        x.lay(0, 1, 2);
        x.tell(x.behind(1, 0));
        Due.tape(x, "fee w + 7");
        x.weeks(1);
        return x;
    }

    private static int thinks(HearsaySeeds x, int which) {
        switch (which) {
            case 0: return x.behind(100, 0);
            case 1: return x.first(0, 9);
            case 2: return x.ear(0, 1, 60, 0);
            case 3: return x.fewest(0, 1, 12);
            case 4: return x.house(0, 60, 0);
            case 5: return x.becomes(0, 60, 0);
            case 6: return x.like(0, 0);
            case 7: return x.fee();
            default: return x.fine(0);
        }
    }

    /** THE WEEK is 9999, whose rest by 6 is 3; the next one is of field 4. */
    private static void withoutThatBound() {
        Due.sentence(18, "without the bound of THE WEEK");
        HearsaySeeds x = atTheEnd();
        x.person(NEIGHBOUR, 0, 9);
        x.person(NEIGHBOUR, 0, 9);
        x.person(NEIGHBOUR, 4, 9);
        x.lets(0, 3, 5);
        due("behind 1", x.behind(1, 0), 4);
        due("behind 100", x.behind(100, 0), 17 * 4);
        due("behind 1", x.behind(1, 6), 5);
        Due.sentence(19, "without the bound of THE WEEK");
        due("first", x.first(3, 5), 1);
        Due.sentence(20, "without the bound of THE WEEK");
        due("ear", x.ear(3, 6, 1, 1), 4);
        due("ear, of the field of the week behind it", x.ear(4, 6, 2, 1), 4);
        Due.sentence(21, "without the bound of THE WEEK");
        due("fewest now", x.fewest(3, 5, 0), 0);
        due("fewest", x.fewest(3, 6, 1), 1);
        Due.sentence(22, "without the bound of THE WEEK");
        due("house", x.house(2, 1, 1), 6);
        due("house", x.house(2, 60, 1), 60);
        Due.sentence(23, "without the bound of THE WEEK");
        x.sow(3, 6);
        x.seed(Road.notTo(0, 3));
        due("becomes, one more of it", x.becomes(0, 1, 0), 1);
        due("becomes", x.becomes(0, 1, 1), 0);
        x.sow(3, 0);
        Due.sentence(24, "without the bound of THE WEEK");
        x.sheet(0, 0, 2);
        x.mark(0, 0, 5);
        x.mark(0, 1, 5);
        due("like", x.like(0, 0), 3);
        x.lets(0, 4, 7);
        x.lets(2, 4, 8);
        x.lets(2, 3, 0);
        x.sheet(0, 1, 3);
        x.mark(0, 0, NONE);
        x.mark(0, 1, NONE);
        x.mark(0, 2, 7);
        due("like behind 2 weeks", x.like(0, 0), 4);
        due("the week", x.count(1), 9999);
    }

    // ---- 19

    private static void boundsOfFirst() {
        Due.sentence(19, "FIRST of a FIELD, for a CROP (0 .. 9). BAD; NONE: not by then");
        HearsaySeeds x = new HearsaySeeds();
        x.person(NEIGHBOUR, 0, 0);
        x.lets(0, 5, 9);
        due("crop 0, as at first", x.first(5, 0), 0);
        due("crop 9", x.first(5, 9), 6);
        due("field 0, never", x.first(0, 1), NONE);
        due("field 0, as at first", x.first(0, 0), 0);
        due("crop 10", x.first(5, 10), BAD);
        due("field 6", x.first(6, 0), BAD);
        for (int odd : new int[] {-1, LOW, HIGH}) {
            due("field " + odd, x.first(odd, 0), BAD);
            due("crop " + odd, x.first(0, odd), BAD);
        }
        x.weeks(6);
        due("it grew there latest", x.first(5, 9), 0);
        x.lets(0, 5, 0);
        due("nothing grows again", x.first(5, 0), 6);
        due("it grew there latest", x.first(5, 9), 0);
        x.weeks(6);
        due("nothing grew latest", x.first(5, 0), 0);
        due("no more", x.first(5, 9), NONE);
    }

    /** Alone at place 3, whom the road shows 9 in a field within these weeks. */
    private static HearsaySeeds seenWithin(int field, int least, int most) {
        HearsaySeeds x = new HearsaySeeds();
        x.seed(Road.within(3, field, least, most));
        x.person(NEIGHBOUR, 3, 0);
        x.sow(field, 9);
        return x;
    }

    private static void twoHundredWeeks() {
        Due.sentence(19, "behind how many WEEKS (0 .. 200) it GREW there latest, first");
        due("in week 0", seenWithin(0, 0, 0).first(0, 9), 1);
        due("in week 1", seenWithin(1, 0, 1).first(1, 9), 2);
        due("in week 198", seenWithin(0, 193, 198).first(0, 9), 199);
        due("in week 199", seenWithin(1, 194, 199).first(1, 9), 200);
        due("in week 200", seenWithin(2, 195, 200).first(2, 9), NONE);
        due("in week 205", seenWithin(1, 200, 205).first(1, 9), NONE);
        HearsaySeeds x = seenWithin(2, 195, 200);
        x.weeks(1);
        due("in week 200, a week on", x.first(2, 9), 200);
    }

    // ---- 20

    private static void boundsOfEar() {
        Due.sentence(20, "EAR of a FIELD, for a CROP (1 .. 9), for n (0 .. 60): what 0 the one of PEOPLE, 1 VOTES. BAD; NONE: there are no PEOPLE");
        HearsaySeeds x = new HearsaySeeds();
        due("nobody, 0", x.ear(0, 1, 0, 0), NONE);
        due("nobody, 60", x.ear(5, 9, 60, 1), NONE);
        for (int people = 0; people < 2; people++) {
            for (int odd : new int[] {-1, LOW, HIGH}) {
                due("field " + odd, x.ear(odd, 1, 0, 0), BAD);
                due("crop " + odd, x.ear(0, odd, 0, 0), BAD);
                due("n " + odd, x.ear(0, 1, odd, 0), BAD);
                due("what " + odd, x.ear(0, 1, 0, odd), BAD);
            }
            due("field 6", x.ear(6, 1, 0, 0), BAD);
            due("crop 0", x.ear(0, 0, 0, 0), BAD);
            due("crop 10", x.ear(0, 10, 0, 0), BAD);
            due("n 61", x.ear(0, 1, 61, 0), BAD);
            due("what 2", x.ear(0, 1, 0, 2), BAD);
            x.person(EXPERT, 0, 0);
        }
        due("the last field, crop and n", x.ear(5, 9, 60, 1), 5);
        due("the first", x.ear(0, 1, 0, 1), 5);
        due("the one", x.ear(5, 9, 60, 0), 0);
    }

    /** What becomes of it if one is told it, through the calls that change. */
    private static int votesIfTold(int lot, int set, int field, int crop, int n) {
        HearsaySeeds y = toldNow(lot, set, field, crop, n);
        return y.votes(field, crop);
    }

    private static HearsaySeeds toldNow(int lot, int set, int field, int crop, int n) {
        HearsaySeeds y = lively(lot);
        for (int one = 0; one < 8; one++) {
            if ((set >> one & 1) == 1) {
                y.lets(one, field, crop);
                y.set(one, 3, 99);
            }
        }
        passes(y, n);
        return y;
    }

    private static void earAsItComes() {
        Due.sentence(20, "the one of PEOPLE whom it had best be TOLD now, so that the CROP has most VOTES there behind n WEEKS; of several the least");
        for (int lot = 1; lot < 8; lot++) {
            for (int n : new int[] {0, 1, 2, 5, 6, 12, 59, 60}) {
                int best = 0;
                int most = -1;
                for (int one = 0; one < 8; one++) {
                    int votes = votesIfTold(lot, 1 << one, lot % 6, lot + 1, n);
                    if (votes > most) {
                        best = one;
                        most = votes;
                    }
                }
                HearsaySeeds x = lively(lot);
                due("lot " + lot + ", n " + n, x.ear(lot % 6, lot + 1, n, 0), best);
                due("lot " + lot + ", n " + n, x.ear(lot % 6, lot + 1, n, 1), most);
            }
        }
    }

    private static void earOfSeveral() {
        Due.sentence(20, "has most VOTES there behind n WEEKS; of several the least");
        HearsaySeeds x = new HearsaySeeds();
        for (int i = 0; i < 8; i++) {
            x.person(NEIGHBOUR, i, 0);
        }
        due("all the same", x.ear(0, 9, 0, 0), 0);
        x.turns(7, EXPERT);
        due("the last", x.ear(0, 9, 0, 0), 7);
        due("its votes", x.ear(0, 9, 0, 1), 5);
        x.turns(6, EXPERT);
        due("of two the least", x.ear(0, 9, 0, 0), 6);
        x.lets(6, 0, 9);
        x.lets(7, 0, 9);
        due("who knows it already adds nothing", x.ear(0, 9, 0, 0), 0);
        due("votes", x.ear(0, 9, 0, 1), 12);
    }

    private static void worseThanNone() {
        Due.sentence(20, "the one of PEOPLE whom it had best be TOLD now");
        // Who is sure 99 heeds whatever a gossip says of it, who is sure 50 does not: nobody had best be told.
        HearsaySeeds x = new HearsaySeeds();
        Due.text(x, "want (s > 98) * 99");
        for (int i = 0; i < 2; i++) {
            x.person(GOSSIP, 0, 0);
            x.lets(i, 0, 4);
            x.set(i, 3, 50);
        }
        due("one all the same", x.ear(0, 4, 6, 0), 0);
        due("its votes", x.ear(0, 4, 6, 1), 1);
        due("nobody told", x.fewest(0, 4, 6), 0);
        x.weeks(6);
        due("nobody told", x.votes(0, 4), 2);
    }

    private static void toldIsSure() {
        Due.sentence(20, "To TELL one a CROP of a FIELD: it THINKS that of it, and is SURE 99");
        // The child says 9 of field 0 to the other one, who was told 4 of it and is sure.
        HearsaySeeds x = new HearsaySeeds();
        Due.text(x, "want 99");
        x.person(CHILD, 0, 0);
        x.person(NEIGHBOUR, 0, 0);
        due("99 is not more than 99", x.ear(0, 4, 1, 1), 2);
        HearsaySeeds y = new HearsaySeeds();
        Due.text(y, "want 99");
        y.person(CHILD, 0, 0);
        y.person(GOSSIP, 0, 0);
        due("102 is more than 99", y.ear(0, 4, 1, 1), 1);
        due("so the child had best be told", y.ear(0, 4, 1, 0), 0);
    }

    // ---- 21

    private static void boundsOfFewest() {
        Due.sentence(21, "FEWEST of a FIELD, for a CROP (1 .. 9), for n (0 .. 12): a set. BAD; NONE: none does");
        HearsaySeeds x = new HearsaySeeds();
        due("nobody, 0", x.fewest(0, 1, 0), NONE);
        due("nobody, 12", x.fewest(5, 9, 12), NONE);
        for (int people = 0; people < 2; people++) {
            for (int odd : new int[] {-1, LOW, HIGH}) {
                due("field " + odd, x.fewest(odd, 1, 0), BAD);
                due("crop " + odd, x.fewest(0, odd, 0), BAD);
                due("n " + odd, x.fewest(0, 1, odd), BAD);
            }
            due("field 6", x.fewest(6, 1, 0), BAD);
            due("crop 0", x.fewest(0, 0, 0), BAD);
            due("crop 10", x.fewest(0, 10, 0), BAD);
            due("n 13", x.fewest(0, 1, 13), BAD);
            x.person(EXPERT, 0, 0);
        }
        due("the last field, crop and n", x.fewest(5, 9, 12), 1);
        due("the first", x.fewest(0, 1, 0), 1);
    }

    private static void fewestAsItComes() {
        Due.sentence(21, "the set of fewest PEOPLE such that, if all these are TOLD it now, it is THE FIRST CROP there behind n WEEKS; of several the least");
        for (int lot = 1; lot < 7; lot++) {
            for (int n : new int[] {0, 1, 3, 11, 12}) {
                int best = NONE;
                for (int set = 255; set >= 0; set--) {
                    boolean fewer = best == NONE || Integer.bitCount(set) <= Integer.bitCount(best);
                    if (fewer && toldNow(lot, set, lot % 6, lot + 2, n).field(lot % 6, 2) == lot + 2) {
                        best = set;
                    }
                }
                due("lot " + lot + ", n " + n, lively(lot).fewest(lot % 6, lot + 2, n), best);
            }
        }
    }

    private static void fewestOfSeveral() {
        Due.sentence(21, "of several the least");
        HearsaySeeds x = new HearsaySeeds();
        for (int i = 0; i < 8; i++) {
            x.person(NEIGHBOUR, i, 0);
            x.lets(i, 0, 5);
        }
        due("nobody need be told", x.fewest(0, 5, 0), 0);
        due("four of eight, if less", x.fewest(0, 4, 0), 15);
        due("five of eight, if more", x.fewest(0, 6, 0), 31);
        x.turns(7, EXPERT);
        for (int i = 4; i < 7; i++) {
            x.lets(i, 0, 0);
        }
        // 5 has 8 votes of the first four, and 5 of the last: he and one of them turn it.
        due("few ahead of least", x.fewest(0, 6, 0), 128 + 1);
        x.lets(0, 0, 0);
        x.lets(1, 0, 0);
        due("one alone, the last", x.fewest(0, 6, 0), 128);
    }

    private static void noneDoes() {
        Due.sentence(21, "NONE: none does");
        HearsaySeeds x = new HearsaySeeds();
        x.person(NEIGHBOUR, 3, 0);
        x.sow(5, 9);
        x.seed(Road.within(3, 5, 11, 11));
        due("till then he thinks it", x.fewest(5, 8, 11), 1);
        due("behind 12 weeks he has seen it", x.fewest(5, 8, 12), NONE);
        due("behind 12 weeks he has seen it", x.fewest(5, 9, 12), 0);
        due("till then he must be told", x.fewest(5, 9, 11), 1);
    }

    // ---- 22

    private static void boundsOfHouse() {
        Due.sentence(22, "HOUSE of one, for n (1 .. 60): what 0 the PLACE, 1 WEIGHT. BAD");
        HearsaySeeds x = new HearsaySeeds();
        x.person(NEIGHBOUR, 3, 0);
        x.person(NEIGHBOUR, 3, 0);
        x.lets(1, 0, 5);
        due("n 1", x.house(1, 1, 1), 2);
        due("n 60", x.house(1, 60, 1), 20);
        due("n 55", x.house(1, 55, 1), 20);
        due("n 54", x.house(1, 54, 1), 18);
        for (int odd : new int[] {-1, LOW, HIGH}) {
            due("person " + odd, x.house(odd, 1, 0), BAD);
            due("n " + odd, x.house(0, odd, 0), BAD);
            due("what " + odd, x.house(0, 1, odd), BAD);
        }
        due("person 2", x.house(2, 1, 0), BAD);
        due("n 0", x.house(0, 0, 0), BAD);
        due("n 61", x.house(0, 61, 0), BAD);
        due("what 2", x.house(0, 1, 2), BAD);
    }

    private static void houseAsItComes() {
        Due.sentence(22, "the PLACE at which it had best live from now on, so that WEIGHT is most behind n WEEKS; of several the least");
        for (int lot = 1; lot < 8; lot++) {
            for (int n : new int[] {1, 2, 6, 59, 60}) {
                int best = 0;
                int most = -1;
                for (int place = 0; place < 8; place++) {
                    HearsaySeeds y = lively(lot);
                    y.set(lot, 1, place);
                    y.weeks(n);
                    if (y.count(2) > most) {
                        best = place;
                        most = y.count(2);
                    }
                }
                due("lot " + lot + ", n " + n, lively(lot).house(lot, n, 0), best);
                due("lot " + lot + ", n " + n, lively(lot).house(lot, n, 1), most);
            }
        }
    }

    private static void houseAtTheEnds() {
        Due.sentence(22, "PLACE 0 .. 7 (along the lane, round: beside 7 is 0)");
        int[][] ends = {{6, 0, 7, 0}, {7, 1, 0, 0}, {0, 2, 1, 3}};
        for (int[] row : ends) {
            HearsaySeeds x = new HearsaySeeds();
            Due.text(x, "want s + 1");
            x.person(NEIGHBOUR, row[0], 0);
            x.person(NEIGHBOUR, row[1], 0);
            x.person(NEIGHBOUR, 4, 0);
            x.lets(0, 0, 3);
            x.lets(1, 1, 3);
            due("between " + row[0] + " and " + row[1], x.house(2, 2, 0), row[2]);
            due("weight", x.house(2, 2, 1), 8);
            due("of several the least", x.house(0, 1, 0), row[3]);
        }
    }

    /** Best would be a place beside 7 and 1 that is not beside 0; there is none. */
    private static void noNinthPlace() {
        Due.sentence(22, "PLACE 0 .. 7 (along the lane, round: beside 7 is 0)");
        HearsaySeeds x = new HearsaySeeds();
        Due.text(x, "want (s < 50) * (s + 1)");
        x.person(NEIGHBOUR, 7, 0);
        x.person(NEIGHBOUR, 1, 0);
        for (int i = 2; i < 6; i++) {
            x.person(NEIGHBOUR, 4, 0);
        }
        x.person(CHILD, 0, 0);
        x.lets(0, 0, 3);
        x.lets(1, 1, 3);
        x.set(0, 3, 99);
        x.set(1, 3, 99);
        // 5 without it (the child heeds the first as well), and its own 2 in one of the fields.
        due("beside one of them alone", x.house(2, 2, 0), 2);
        due("weight", x.house(2, 2, 1), 7);
    }

    // ---- 23

    private static void boundsOfBecomes() {
        Due.sentence(23, "BECOMES of one, for n (1 .. 60): what 0 the KIND, 1 WRONG. BAD");
        HearsaySeeds x = new HearsaySeeds();
        x.person(NEIGHBOUR, 3, 0);
        x.person(NEIGHBOUR, 3, 0);
        x.lets(1, 0, 5);
        due("n 1", x.becomes(1, 1, 1), 1);
        due("n 60", x.becomes(1, 60, 1), 10);
        due("n 55", x.becomes(1, 55, 1), 10);
        due("n 54", x.becomes(1, 54, 1), 9);
        for (int odd : new int[] {-1, LOW, HIGH}) {
            due("person " + odd, x.becomes(odd, 1, 0), BAD);
            due("n " + odd, x.becomes(0, odd, 0), BAD);
            due("what " + odd, x.becomes(0, 1, odd), BAD);
        }
        due("person 2", x.becomes(2, 1, 0), BAD);
        due("n 0", x.becomes(0, 0, 0), BAD);
        due("n 61", x.becomes(0, 61, 0), BAD);
        due("what 2", x.becomes(0, 1, 2), BAD);
    }

    private static void becomesAsItComes() {
        Due.sentence(23, "the KIND of which it had best be from now on, so that WRONG is least behind n WEEKS; of several the least");
        for (int lot = 1; lot < 8; lot++) {
            for (int n : new int[] {1, 2, 6, 59, 60}) {
                int best = 0;
                int least = HIGH;
                for (int kind = 0; kind < 6; kind++) {
                    HearsaySeeds y = lively(lot);
                    y.turns(lot, kind);
                    y.weeks(n);
                    if (y.count(3) < least) {
                        best = kind;
                        least = y.count(3);
                    }
                }
                due("lot " + lot + ", n " + n, lively(lot).becomes(lot, n, 0), best);
                due("lot " + lot + ", n " + n, lively(lot).becomes(lot, n, 1), least);
            }
        }
    }

    private static void eachKindIsBest() {
        Due.sentence(23, "the KIND of which it had best be from now on");
        HearsaySeeds x = new HearsaySeeds();
        x.seed(Road.notTo(0, 0));
        x.person(NEIGHBOUR, 0, 0);
        x.person(NEIGHBOUR, 0, 9);
        x.lets(0, 0, 3);
        // The other one heeds what it says, and weighs 2: more than a gossip or a child, less than a liar or an expert.
        x.sow(0, 3);
        due("neighbour", x.becomes(0, 1, 0), 0);
        x.sow(0, 4);
        due("gossip", x.becomes(0, 1, 0), 1);
        x.sow(0, 9);
        due("child", x.becomes(0, 1, 0), 5);
        due("none wrong", x.becomes(0, 1, 1), 0);
        x.sow(0, 6);
        due("wrong whatever it is", x.becomes(0, 1, 0), 0);
        due("wrong whatever it is", x.becomes(0, 1, 1), 1);
        x.person(NEIGHBOUR, 0, 9);
        due("liar, with one more who heeds it", x.becomes(0, 1, 0), 3);
        x.lets(0, 0, 0);
        due("expert, if it thinks nothing itself", x.becomes(0, 1, 0), 2);
    }

    private static void traderIsBest() {
        Due.sentence(23, "TRADER: as EXPERT, less 1");
        HearsaySeeds x = new HearsaySeeds();
        x.seed(Road.notTo(0, 0));
        x.sow(0, 9);
        x.person(NEIGHBOUR, 0, 0);
        x.lets(0, 0, 3);
        for (int kind : new int[] {NEIGHBOUR, NEIGHBOUR, GOSSIP}) {
            x.lets(x.person(kind, 0, 9), 0, 9);
        }
        // The others have 5 votes for 9 and heed whatever is said; an expert's own 5 for 3 are as many, a trader's 4 not.
        due("trader", x.becomes(0, 1, 0), 4);
        due("none wrong", x.becomes(0, 1, 1), 0);
    }

    // ---- 24

    private static void boundsOfLike() {
        Due.sentence(24, "LIKE by a SHEET: what 0 the FIELD, 1 the differences, together. BAD; NOTHING");
        HearsaySeeds x = new HearsaySeeds();
        for (int sheet = 0; sheet < 4; sheet++) {
            due("missing " + sheet, x.like(sheet, 0), NOTHING);
            due("bad ahead of missing " + sheet, x.like(sheet, 2), BAD);
            x.sheet(sheet, sheet % 2, 1);
            due("there " + sheet, x.like(sheet, 0), 0);
            due("there " + sheet, x.like(sheet, 1), 0);
            due("what 2", x.like(sheet, 2), BAD);
            due("what -1", x.like(sheet, -1), BAD);
        }
        for (int odd : new int[] {-1, 4, LOW, HIGH}) {
            due("sheet " + odd, x.like(odd, 0), BAD);
        }
        x.sheet(2, -1, 0);
        due("missing again", x.like(2, 1), NOTHING);
    }

    private static void likeNothing() {
        Due.sentence(24, "places k that are numbers (k from 0 on)");
        HearsaySeeds x = lively(5);
        x.sheet(0, 0, 0);
        due("no places", x.like(0, 0), 0);
        due("no places", x.like(0, 1), 0);
        x.sheet(1, 1, 24);
        for (int k = 0; k < 24; k++) {
            x.mark(1, k, NONE);
        }
        due("no numbers", x.like(1, 0), 0);
        due("no numbers", x.like(1, 1), 0);
    }

    private static void likeAsItComes() {
        Due.sentence(24, "the FIELD of which THE FIRST CROP behind k WEEKS and places k that are numbers (k from 0 on) differ least (signs left out), together; of several the least");
        for (int lot = 1; lot < 8; lot++) {
            for (int places : new int[] {1, 2, 7, 23, 24}) {
                HearsaySeeds x = lively(lot);
                x.sheet(3, 1, places);
                int[] apart = new int[6];
                HearsaySeeds y = lively(lot);
                for (int k = 0; k < places; k++) {
                    int v = (k * lot) % 13 - 2;
                    boolean number = (k + lot) % 5 != 4;
                    x.mark(3, k, number ? v : NONE);
                    for (int field = 0; field < 6 && number; field++) {
                        apart[field] += Math.abs(y.field(field, 2) - v);
                    }
                    y.weeks(1);
                }
                int best = 5;
                for (int field = 4; field >= 0; field--) {
                    best = apart[field] <= apart[best] ? field : best;
                }
                due("lot " + lot + ", places " + places, x.like(3, 0), best);
                due("lot " + lot + ", places " + places, x.like(3, 1), apart[best]);
            }
        }
    }

    private static void likeTheLastField() {
        Due.sentence(24, "differ least (signs left out), together; of several the least");
        HearsaySeeds x = new HearsaySeeds();
        x.person(NEIGHBOUR, 0, 0);
        for (int field = 0; field < 6; field++) {
            x.lets(0, field, field == 5 ? 9 : 8);
        }
        x.sheet(0, 0, 24);
        x.sheet(1, 1, 24);
        for (int k = 0; k < 24; k++) {
            x.mark(0, k, 32767);
            x.mark(1, k, -99999);
        }
        due("the last field", x.like(0, 0), 5);
        due("far above", x.like(0, 1), 24 * (32767 - 9));
        due("far below, of several the least", x.like(1, 0), 0);
        due("far below", x.like(1, 1), 24 * (99999 + 8));
        x.mark(0, 23, 32768);
        due("the last place counts, a short as it is", x.like(0, 1), 23 * (32767 - 9) + 32768 + 9);
    }

    // ---- 25, 26

    private static void feeWithoutAText() {
        Due.sentence(25, "what fee gives is told by fee(); without a TEXT: WEIGHT");
        HearsaySeeds x = new HearsaySeeds();
        due("at first", x.fee(), 0);
        x.person(NEIGHBOUR, 0, 7);
        x.lets(0, 0, 5);
        x.weeks(7);
        due("weight", x.fee(), 4);
        Due.text(x, "want 30");
        Due.text(x, "fine 40");
        due("texts of other keys", x.fee(), 4);
        Due.text(x, "fee w");
        due("w", x.fee(), 4);
        Due.text(x, "fee g");
        due("g", x.fee(), 2);
        Due.text(x, "fee 0 - 9999");
        due("not held within anything", x.fee(), -9999);
        Due.text(x, "fee 9999*9999");
        due("not held within anything", x.fee(), 99980001);
    }

    private static void fineWithoutAText() {
        Due.sentence(26, "what fine gives for one of PEOPLE is told by fine(); without a TEXT: SURE");
        HearsaySeeds x = new HearsaySeeds();
        x.person(NEIGHBOUR, 0, 7);
        x.person(CHILD, 0, 8);
        x.set(0, 3, 99);
        due("sure", x.fine(0), 99);
        due("sure of another one", x.fine(1), 0);
        Due.text(x, "want 30");
        Due.text(x, "fee 40");
        due("texts of other keys", x.fine(0), 99);
        Due.text(x, "fine t");
        due("t", x.fine(0), 7);
        due("t of another one", x.fine(1), 8);
        Due.text(x, "fine s");
        due("s", x.fine(0), 99);
        due("s of another one", x.fine(1), 0);
        Due.text(x, "fine 0 - 9999");
        due("not held within anything", x.fine(1), -9999);
        HearsaySeeds y = new HearsaySeeds();
        y.person(NEIGHBOUR, 0, 7);
        Due.text(y, "fine t + 1");
        due("the text of number 0 counts", y.fine(0), 8);
    }

    private static void fineRefused() {
        Due.sentence(26, "What fine gives for one. BAD");
        HearsaySeeds x = new HearsaySeeds();
        for (int people = 0; people <= 8; people++) {
            due("-1", x.fine(-1), BAD);
            due("behind the last of " + people, x.fine(people), BAD);
            due("the last of " + people, x.fine(people - 1), people == 0 ? BAD : 0);
            x.person(NEIGHBOUR, 0, 0);
        }
        due("lowest", x.fine(LOW), BAD);
        due("highest", x.fine(HIGH), BAD);
        Due.text(x, "fine 5");
        due("-1, with a text", x.fine(-1), BAD);
        due("8, with a text", x.fine(8), BAD);
    }

    public static void main(String[] args) {
        boundsOfBehind();
        nothingChanges();
        withoutThatBound();
        boundsOfFirst();
        twoHundredWeeks();
        boundsOfEar();
        earAsItComes();
        earOfSeveral();
        worseThanNone();
        toldIsSure();
        boundsOfFewest();
        fewestAsItComes();
        fewestOfSeveral();
        noneDoes();
        boundsOfHouse();
        houseAsItComes();
        houseAtTheEnds();
        noNinthPlace();
        boundsOfBecomes();
        becomesAsItComes();
        eachKindIsBest();
        traderIsBest();
        boundsOfLike();
        likeNothing();
        likeAsItComes();
        likeTheLastField();
        feeWithoutAText();
        fineWithoutAText();
        fineRefused();
        Due.finish();
    }
}
