/** The boundary cases that the document names for promises 16 and 17, a method a sentence. */
public final class BoundsOfWeeksTest {
    private static final int BAD = Due.BAD;
    private static final int LOW = Integer.MIN_VALUE, HIGH = Integer.MAX_VALUE;
    private static final int NEIGHBOUR = 0, GOSSIP = 1, EXPERT = 2, TRADER = 4, CHILD = 5;

    private static void due(String call, int got, int want) {
        Due.due(call, got, want);
    }

    /** A county in which so many weeks have passed, nobody living there. */
    private static HearsaySeeds inWeek(int week) {
        HearsaySeeds x = new HearsaySeeds();
        for (int left = week; left > 0; left -= 100) {
            x.weeks(Math.min(left, 100));
        }
        return x;
    }

    // ---- 16, hearsay

    private static void fieldOfEachNumber() {
        Due.sentence(16, "each one SAYS a CROP of the FIELD that is the rest by 6 of THE WEEK and its number, together");
        for (int week = 0; week <= 7; week++) {
            for (int speaker = 0; speaker < 8; speaker++) {
                HearsaySeeds x = inWeek(week);
                int hearer = speaker == 7 ? 0 : 7;
                for (int i = 0; i < 8; i++) {
                    x.person(NEIGHBOUR, i == speaker || i == hearer ? 0 : 4, 9);
                }
                for (int field = 0; field < 6; field++) {
                    x.lets(speaker, field, field + 1);
                }
                x.weeks(1);
                int field = (week + speaker) % 6;
                due("week " + week + ", number " + speaker, x.told(hearer, 5), 1 << field);
                due("what it said", x.thought(hearer, field), field + 1);
            }
        }
    }

    private static void nothingSaid() {
        Due.sentence(16, "if that is not 0");
        HearsaySeeds x = new HearsaySeeds();
        for (int i = 0; i < 8; i++) {
            x.person(i % 5, 0, 9);
            x.set(i, 3, i);
        }
        x.weeks(100);
        for (int i = 0; i < 8; i++) {
            due("as sure as ever", x.told(i, 3), i);
        }
        due("nobody changed", x.county(2), 0);
    }

    private static void notToItself() {
        Due.sentence(16, "all others whose PLACE is the same, or beside it");
        HearsaySeeds x = new HearsaySeeds();
        x.person(CHILD, 0, 9);
        x.set(0, 3, 50);
        x.weeks(6);
        due("sure", x.told(0, 3), 50);
        due("thinks", x.told(0, 5), 0);
        due("changed", x.county(2), 0);
    }

    private static void everyTwoPlaces() {
        Due.sentence(16, "PLACE 0 .. 7 (along the lane, round: beside 7 is 0)");
        for (int a = 0; a < 8; a++) {
            for (int off = 0; off < 8; off++) {
                HearsaySeeds x = new HearsaySeeds();
                x.person(CHILD, a, 0);
                x.person(NEIGHBOUR, (a + off) % 8, 1);
                x.weeks(1);
                boolean near = off == 0 || off == 1 || off == 7;
                due("from " + a + " to " + off + " on", x.thought(1, 0), near ? 9 : 0);
                due("changed", x.county(2), near ? 1 : 0);
            }
        }
    }

    private static void moreThanSure() {
        Due.sentence(16, "who HEEDS it more than it is SURE, THINKS it of that FIELD, is SURE so much (99 at most), CHANGED is 1 more; else it is 1 less SURE (0 at least)");
        for (int trust = 0; trust < 10; trust++) {
            for (int sure = 0; sure < 12; sure++) {
                HearsaySeeds x = new HearsaySeeds();
                x.person(CHILD, 0, 0);
                x.person(NEIGHBOUR, 0, trust);
                x.set(1, 3, sure);
                x.weeks(1);
                String how = "heeds " + trust + ", sure " + sure;
                due(how + ": thinks", x.thought(1, 0), trust > sure ? 9 : 0);
                due(how + ": is sure", x.told(1, 3), trust > sure ? trust : sure == 0 ? 0 : sure - 1);
                due(how + ": changed", x.county(2), trust > sure ? 1 : 0);
            }
        }
    }

    /** A gossip hears, of whom want makes anything from 3 to 102. */
    private static void sureAtMost(int want, int sure, int then, boolean heeded) {
        HearsaySeeds x = new HearsaySeeds();
        Due.text(x, "want " + want);
        x.person(CHILD, 0, 0);
        x.person(GOSSIP, 0, 0);
        x.set(1, 3, sure);
        x.weeks(1);
        String how = "heeds " + (Math.min(want, 99) + 3) + ", sure " + sure;
        due(how + ": is sure", x.told(1, 3), then);
        due(how + ": thinks", x.thought(1, 0), heeded ? 9 : 0);
        due(how + ": changed", x.county(2), heeded ? 1 : 0);
    }

    private static void sureNinetyNine() {
        Due.sentence(16, "is SURE so much (99 at most)");
        sureAtMost(95, 97, 98, true);
        sureAtMost(95, 98, 97, false);
        sureAtMost(96, 98, 99, true);
        sureAtMost(96, 99, 98, false);
        sureAtMost(97, 98, 99, true);
        sureAtMost(97, 99, 99, true);
        sureAtMost(99, 99, 99, true);
        sureAtMost(100, 0, 99, true);
    }

    private static void childrenAmongThemselves() {
        Due.sentence(16, "CHILD: 99");
        HearsaySeeds x = new HearsaySeeds();
        x.person(CHILD, 0, 0);
        x.person(CHILD, 0, 0);
        x.weeks(1);
        due("sure 99", x.told(0, 3), 99);
        due("sure 99", x.told(1, 3), 99);
        due("both changed", x.county(2), 2);
        x.weeks(1);
        due("99 is not more than 99", x.told(0, 3), 98);
        due("none changed", x.county(2), 2);
        x.weeks(1);
        due("99 is more than 98", x.told(0, 3), 99);
        due("both changed", x.county(2), 4);
    }

    private static void expertsAreNotTold() {
        Due.sentence(16, "EXPERT: 0");
        HearsaySeeds x = new HearsaySeeds();
        x.person(CHILD, 0, 0);
        x.person(EXPERT, 0, 9);
        x.set(1, 3, 2);
        for (int left = 1; left >= 0; left--) {
            x.weeks(1);
            due("less sure", x.told(1, 3), left);
        }
        x.weeks(10);
        due("not below 0", x.told(1, 3), 0);
        due("thinks nothing", x.told(1, 5), 0);
        due("not changed", x.county(2), 0);
    }

    private static void whoThinksSoAlready() {
        Due.sentence(16, "CHANGED is 1 more");
        HearsaySeeds x = new HearsaySeeds();
        x.person(CHILD, 0, 0);
        x.person(NEIGHBOUR, 0, 4);
        x.lets(1, 0, 9);
        x.weeks(1);
        due("heeds it all the same", x.told(1, 3), 4);
        due("changed", x.county(2), 1);
    }

    private static void hearersByNumbers() {
        Due.sentence(16, "or beside it, by numbers");
        HearsaySeeds x = new HearsaySeeds();
        x.person(NEIGHBOUR, 0, 0);
        x.lets(0, 0, 4);
        for (int i = 1; i < 6; i++) {
            x.person(TRADER, 0, 0);
            x.set(i, 3, 2 * i - 1);
        }
        x.weeks(1);
        for (int i = 1; i < 6; i++) {
            due("number " + i + " counts those ahead of it", x.told(i, 3), 2 * i);
        }
        HearsaySeeds y = new HearsaySeeds();
        y.person(NEIGHBOUR, 0, 0);
        y.lets(0, 0, 4);
        for (int i = 1; i < 6; i++) {
            y.person(TRADER, 0, 0);
            y.set(i, 3, 11 - 2 * i);
        }
        // Heard the other way round all would heed it; by numbers the first four are surer than 2.
        y.weeks(1);
        int[] sure = {0, 8, 6, 4, 2, 2};
        for (int i = 1; i < 6; i++) {
            due("number " + i + " does not count those behind it", y.told(i, 3), sure[i]);
        }
    }

    private static void speakersByNumbers() {
        Due.sentence(16, "PEOPLE by numbers: each one SAYS a CROP");
        HearsaySeeds x = new HearsaySeeds();
        int[] places = {0, 4, 4, 4, 4, 4, 1, 2};
        for (int place : places) {
            x.person(NEIGHBOUR, place, 9);
        }
        x.lets(0, 0, 3);
        x.weeks(1);
        due("the first told the seventh", x.thought(6, 0), 3);
        due("who told the eighth in the same week", x.thought(7, 0), 3);
        HearsaySeeds y = new HearsaySeeds();
        int[] turned = {1, 4, 4, 4, 4, 4, 0, 2};
        for (int place : turned) {
            y.person(NEIGHBOUR, place, 9);
        }
        y.lets(6, 0, 3);
        y.weeks(1);
        due("the seventh told the first", y.thought(0, 0), 3);
        due("who had spoken already", y.thought(7, 0), 0);
    }

    // ---- 16, the road

    private static void whereTheRoadLeads() {
        Due.sentence(16, "Two draws: all whose PLACE is the rest of the first by 8 THINK of the FIELD that is the rest of the second by 6 what is SOWN there");
        for (int place = 0; place < 8; place++) {
            for (int field = 0; field < 6; field++) {
                HearsaySeeds x = new HearsaySeeds();
                for (int i = 0; i < 8; i++) {
                    x.person(EXPERT, i, 9);
                }
                for (int f = 0; f < 6; f++) {
                    x.sow(f, f + 4);
                }
                int v = Road.to(place, field);
                x.seed(v);
                x.weeks(1);
                for (int i = 0; i < 8; i++) {
                    due(i + " where " + place + " sees " + field, x.told(i, 5), i == place ? 1 << field : 0);
                }
                due("what was sown", x.thought(place, field), field + 4);
                due("two draws", x.count(8), Road.drawn(Road.drawn(v)));
            }
        }
    }

    private static void allWhoLiveThere() {
        Due.sentence(16, "all whose PLACE is the rest of the first by 8");
        HearsaySeeds x = new HearsaySeeds();
        for (int i = 0; i < 8; i++) {
            x.person(EXPERT, 7, 0);
            x.set(i, 3, 50 + i);
        }
        x.sow(5, 9);
        x.lets(0, 5, 3);
        x.seed(Road.to(7, 5));
        x.weeks(1);
        for (int i = 0; i < 8; i++) {
            due("sees it", x.thought(i, 5), 9);
            // Only the sixth, an expert too, spoke of a field where something is sown.
            due("as sure as by hearsay alone", x.told(i, 3), i == 5 ? 55 : 49 + i);
        }
        due("none changed", x.county(2), 0);
    }

    private static void nothingSown() {
        Due.sentence(16, "what is SOWN there, if anything is");
        HearsaySeeds x = new HearsaySeeds();
        x.person(NEIGHBOUR, 7, 0);
        x.lets(0, 5, 3);
        x.sow(4, 8);
        int v = Road.to(7, 5);
        x.seed(v);
        x.weeks(1);
        due("thinks as before", x.thought(0, 5), 3);
        due("of no other field", x.told(0, 5), 32);
        due("two draws all the same", x.count(8), Road.drawn(Road.drawn(v)));
    }

    private static void oneBehindTheOther() {
        Due.sentence(16, "(2) Two draws");
        HearsaySeeds x = new HearsaySeeds();
        x.person(NEIGHBOUR, 7, 0);
        x.person(NEIGHBOUR, 0, 9);
        x.sow(0, 9);
        x.seed(Road.to(7, 0));
        due("seen ahead of the growing", x.weeks(1), 2);
        due("grew", x.field(0, 1), 9);
        due("seen behind the talking", x.thought(1, 0), 0);
    }

    // ---- 16, what grows

    private static void fieldOfTheWeek() {
        Due.sentence(16, "In the FIELD that is the rest of THE WEEK by 6 THE FIRST CROP there grows: it GREW there then");
        for (int week = 0; week <= 12; week++) {
            HearsaySeeds x = inWeek(week);
            x.person(NEIGHBOUR, 0, 0);
            for (int field = 0; field < 6; field++) {
                x.lets(0, field, field + 3);
            }
            x.weeks(1);
            for (int field = 0; field < 6; field++) {
                due("week " + week + ", field " + field, x.field(field, 1), field == week % 6 ? field + 3 : 0);
            }
        }
    }

    private static void latest() {
        Due.sentence(16, "it GREW there then");
        HearsaySeeds x = new HearsaySeeds();
        x.person(NEIGHBOUR, 0, 0);
        for (int crop : new int[] {1, 9, 0, 5}) {
            x.lets(0, 0, crop);
            due("weight", x.weeks(6), crop == 0 ? 0 : 2);
            due("grew", x.field(0, 1), crop);
        }
    }

    private static void votesOfWhatGrows() {
        Due.sentence(16, "WEIGHT is its VOTES more (0 for 0)");
        HearsaySeeds x = new HearsaySeeds();
        for (int i = 0; i < 8; i++) {
            x.person(EXPERT, i, 0);
            x.lets(i, 0, i < 4 ? 7 : 3);
        }
        due("its own votes alone", x.weeks(1), 20);
        due("of several the least", x.field(0, 1), 3);
        due("nobody thinks anything", x.weeks(5), 0);
        x.lets(0, 0, 3);
        due("five of eight", x.weeks(1), 25);
        due("together", x.county(0), 45);
    }

    private static void notWhatIsSown() {
        Due.sentence(16, "WRONG is 1 more, if it is not what is SOWN there");
        int[][] rows = {{0, 0, 0}, {0, 1, 1}, {0, 9, 1}, {1, 0, 1}, {9, 0, 1}, {1, 1, 0}, {9, 9, 0}, {8, 9, 1}, {9, 8, 1}};
        for (int[] row : rows) {
            HearsaySeeds x = new HearsaySeeds();
            // Lives across the lane from where the road leads, so that it goes on thinking what it thinks.
            x.person(NEIGHBOUR, 0, 0);
            x.seed(Road.to(4, 5));
            x.lets(0, 0, row[0]);
            x.sow(0, row[1]);
            x.weeks(1);
            due(row[0] + " grew, " + row[1] + " sown", x.county(1), row[2]);
            due("grew", x.field(0, 1), row[0]);
        }
    }

    // ---- 16, how many weeks

    private static void boundsOfN() {
        Due.sentence(16, "n (1 .. 100) WEEKS");
        for (int n : new int[] {0, 101, -1, LOW, HIGH}) {
            HearsaySeeds x = new HearsaySeeds();
            due("n " + n, x.weeks(n), BAD);
            due("the week", x.count(1), 0);
            due("z", x.count(8), 1);
        }
        for (int n : new int[] {1, 2, 99, 100}) {
            HearsaySeeds x = new HearsaySeeds();
            due("n " + n, x.weeks(n), 0);
            due("the week", x.count(1), n);
        }
    }

    /** Alone and thinking of all fields: 2 more by each week. */
    private static HearsaySeeds lastWeeks(int week) {
        HearsaySeeds x = inWeek(week);
        x.person(NEIGHBOUR, 0, 0);
        for (int field = 0; field < 6; field++) {
            x.lets(0, field, 5);
        }
        return x;
    }

    private static void upTo9999() {
        Due.sentence(16, "(no more than up to 9999): by how much WEIGHT is more");
        for (int week : new int[] {9898, 9899, 9900, 9997, 9998, 9999}) {
            for (int n : new int[] {1, 2, 100}) {
                HearsaySeeds x = lastWeeks(week);
                int passed = Math.min(n, 9999 - week);
                int z = x.count(8);
                for (int i = 0; i < 2 * passed; i++) {
                    z = Road.drawn(z);
                }
                due("from " + week + ", " + n, x.weeks(n), 2 * passed);
                due("the week", x.count(1), week + passed);
                due("no draws for others", x.count(8), z);
            }
        }
        HearsaySeeds x = lastWeeks(9999);
        due("bad also then", x.weeks(0), BAD);
        due("bad also then", x.weeks(101), BAD);
    }

    private static void byHowMuchMore() {
        Due.sentence(16, "by how much WEIGHT is more. BAD");
        HearsaySeeds x = lastWeeks(0);
        due("one week", x.weeks(1), 2);
        due("a hundred", x.weeks(100), 200);
        due("not what it is", x.weeks(3), 6);
        due("what it is", x.count(2), 208);
    }

    // ---- 17

    private static void boundsOfCounty() {
        Due.sentence(17, "What is 0 WEIGHT, 1 WRONG, 2 CHANGED, 3 SURE of all, together, 4 AGREED, as a set. BAD");
        HearsaySeeds x = new HearsaySeeds();
        x.person(CHILD, 0, 0);
        x.person(NEIGHBOUR, 0, 4);
        x.sow(0, 8);
        x.seed(Road.to(4, 5));
        x.weeks(1);
        int[] want = {2, 1, 1, 4, 1};
        for (int what = 0; what < 5; what++) {
            due("what " + what, x.county(what), want[what]);
        }
        for (int odd : new int[] {-1, 5, LOW, HIGH}) {
            due("what " + odd, x.county(odd), BAD);
        }
    }

    private static void sureOfAll() {
        Due.sentence(17, "3 SURE of all, together");
        HearsaySeeds x = new HearsaySeeds();
        for (int i = 0; i < 8; i++) {
            x.person(i % 6, i, 0);
            x.set(i, 3, 99);
            due("so many", x.county(3), 99 * (i + 1));
        }
        x.keep();
        x.set(7, 3, 0);
        due("one less", x.county(3), 693);
    }

    private static void agreed() {
        Due.sentence(17, "AGREED: the FIELDS of which some THINK something, and all who do one and the same");
        HearsaySeeds x = new HearsaySeeds();
        for (int i = 0; i < 8; i++) {
            x.person(i == 7 ? EXPERT : CHILD, i, 0);
        }
        due("nobody thinks anything", x.county(4), 0);
        x.lets(7, 5, 9);
        due("one alone", x.county(4), 32);
        x.lets(0, 5, 9);
        due("two", x.county(4), 32);
        x.lets(1, 5, 1);
        due("one thinks otherwise", x.county(4), 0);
        x.lets(1, 5, 0);
        due("nothing is not otherwise", x.county(4), 32);
        for (int field = 0; field < 6; field++) {
            for (int i = 0; i < 8; i++) {
                x.lets(i, field, field + 1);
            }
        }
        due("all six", x.county(4), 63);
        x.lets(0, 0, 9);
        due("the first of eight", x.county(4), 62);
        x.lets(7, 3, 9);
        due("the last of eight, who weighs most", x.county(4), 54);
    }

    public static void main(String[] args) {
        fieldOfEachNumber();
        nothingSaid();
        notToItself();
        everyTwoPlaces();
        moreThanSure();
        sureNinetyNine();
        childrenAmongThemselves();
        expertsAreNotTold();
        whoThinksSoAlready();
        hearersByNumbers();
        speakersByNumbers();
        whereTheRoadLeads();
        allWhoLiveThere();
        nothingSown();
        oneBehindTheOther();
        fieldOfTheWeek();
        latest();
        votesOfWhatGrows();
        notWhatIsSown();
        boundsOfN();
        upTo9999();
        byHowMuchMore();
        boundsOfCounty();
        sureOfAll();
        agreed();
        Due.finish();
    }
}
