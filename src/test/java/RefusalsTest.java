import java.lang.reflect.Method;
import java.util.ArrayList;
import java.util.List;

/**
 * All promises: a refused call answers the refusal that stands first with it, and changes nothing. Each row is made on
 * an object of its own, held against another one on which it was not made.
 */
public final class RefusalsTest {
    /** A full county: eight people, fourteen texts, 96 bytes, 60 numbers, an image; sheet 2 has no places, 3 is missing. */
    private static final String[] FULL_COUNTY = {
        "2 person -1 0 0 BAD", "2 person 6 0 0 BAD", "2 person 0 -1 0 BAD", "2 person 0 8 0 BAD", "2 person 0 0 -1 BAD",
        "2 person 0 0 10 BAD", "2 person 0 0 0 FULL", "2 person 5 7 9 FULL",
        "3 told -1 0 BAD", "3 told 8 0 BAD", "3 told 0 -1 BAD", "3 told 0 7 BAD",
        "4 as -1 0 BAD", "4 as 8 0 BAD", "4 as 0 -1 BAD", "4 as 0 6 BAD", "4 as 8 6 BAD", "4 as 1 5 KIND", "4 as 0 1 KIND",
        "5 turns -1 0 BAD", "5 turns 8 0 BAD", "5 turns 0 -1 BAD", "5 turns 0 6 BAD",
        "6 set -1 1 0 BAD", "6 set 8 1 0 BAD", "6 set 0 0 0 BAD", "6 set 0 4 0 BAD", "6 set 0 1 8 BAD", "6 set 0 1 -1 BAD",
        "6 set 0 2 10 BAD", "6 set 0 2 -1 BAD", "6 set 0 3 100 BAD", "6 set 0 3 -1 BAD",
        "7 thought -1 0 BAD", "7 thought 8 0 BAD", "7 thought 0 -1 BAD", "7 thought 0 6 BAD",
        "8 lets -1 0 1 BAD", "8 lets 8 0 1 BAD", "8 lets 0 -1 1 BAD", "8 lets 0 6 1 BAD", "8 lets 0 0 -1 BAD",
        "8 lets 0 0 10 BAD",
        "9 says -1 0 BAD", "9 says 8 0 BAD", "9 says 0 -1 BAD", "9 says 0 6 BAD",
        "10 heeds -1 0 1 BAD", "10 heeds 8 0 1 BAD", "10 heeds 0 -1 1 BAD", "10 heeds 0 6 1 BAD", "10 heeds 0 0 0 BAD",
        "10 heeds 0 0 10 BAD",
        "11 sow -1 1 BAD", "11 sow 6 1 BAD", "11 sow 0 -1 BAD", "11 sow 0 10 BAD",
        "12 field -1 0 BAD", "12 field 6 0 BAD", "12 field 0 -1 BAD", "12 field 0 5 BAD",
        "13 votes -1 1 BAD", "13 votes 6 1 BAD", "13 votes 0 0 BAD", "13 votes 0 10 BAD",
        "14 deal 0 BAD", "14 deal 9 BAD", "14 deal -1 BAD",
        "16 weeks 0 BAD", "16 weeks 101 BAD", "16 weeks -1 BAD",
        "17 county -1 BAD", "17 county 5 BAD",
        "18 behind -1 0 BAD", "18 behind 101 0 BAD", "18 behind 0 -1 BAD", "18 behind 0 9 BAD",
        "19 first -1 0 BAD", "19 first 6 0 BAD", "19 first 0 -1 BAD", "19 first 0 10 BAD",
        "20 ear -1 1 0 0 BAD", "20 ear 6 1 0 0 BAD", "20 ear 0 0 0 0 BAD", "20 ear 0 10 0 0 BAD", "20 ear 0 1 -1 0 BAD",
        "20 ear 0 1 61 0 BAD", "20 ear 0 1 0 -1 BAD", "20 ear 0 1 0 2 BAD",
        "21 fewest -1 1 0 BAD", "21 fewest 6 1 0 BAD", "21 fewest 0 0 0 BAD", "21 fewest 0 10 0 BAD",
        "21 fewest 0 1 -1 BAD", "21 fewest 0 1 13 BAD",
        "22 house -1 1 0 BAD", "22 house 8 1 0 BAD", "22 house 0 0 0 BAD", "22 house 0 61 0 BAD", "22 house 0 1 -1 BAD",
        "22 house 0 1 2 BAD",
        "23 becomes -1 1 0 BAD", "23 becomes 8 1 0 BAD", "23 becomes 0 0 0 BAD", "23 becomes 0 61 0 BAD",
        "23 becomes 0 1 -1 BAD", "23 becomes 0 1 2 BAD",
        "24 like -1 0 BAD", "24 like 4 0 BAD", "24 like 0 -1 BAD", "24 like 0 2 BAD", "24 like 3 2 BAD", "24 like 3 0 NOTHING",
        "26 fine -1 BAD", "26 fine 8 BAD",
        "27 feed 0 0 0 FULL", "27 feed -1 -1 -1 FULL",
        "28 trim -1 BAD", "28 trim 97 BAD",
        "30 textTold -1 0 BAD", "30 textTold 14 0 BAD", "30 textTold 0 -1 BAD", "30 textTold 0 2 BAD",
        "31 why -1 BAD", "31 why 3 BAD", "31 why 2 NONE",
        "32 sheet -1 0 1 BAD", "32 sheet 4 0 1 BAD", "32 sheet 0 -2 1 BAD", "32 sheet 0 2 1 BAD", "32 sheet 0 0 25 BAD",
        "32 sheet 0 0 -1 SIZE", "32 sheet 1 1 -1 SIZE", "32 sheet 4 0 -1 BAD", "32 sheet 0 2 -1 BAD",
        "33 mark -1 0 0 BAD", "33 mark 4 0 0 BAD", "33 mark 4 9 NONE BAD", "33 mark 3 0 0 NOTHING", "33 mark 3 9 NONE NOTHING",
        "33 mark 0 -1 0 INDEX", "33 mark 0 3 0 INDEX", "33 mark 0 3 NONE INDEX", "33 mark 2 0 0 INDEX", "33 mark 0 0 NONE KIND",
        "33 mark 1 0 100000 BAD", "33 mark 1 0 -100000 BAD", "33 mark 1 3 100000 INDEX",
        "34 pour -1 BAD", "34 pour 4 BAD", "34 pour 3 NOTHING",
        "35 reads -1 BAD", "35 reads 4 BAD", "35 reads 3 NOTHING", "35 reads 2 NONE",
        "36 copy -1 0 0 0 1 BAD", "36 copy 4 0 0 0 1 BAD", "36 copy 0 0 -1 0 1 BAD", "36 copy 0 0 4 0 1 BAD",
        "36 copy 4 0 3 0 1 BAD", "36 copy 3 0 0 0 1 NOTHING", "36 copy 0 0 3 0 1 NOTHING", "36 copy 1 9 3 9 -1 NOTHING",
        "36 copy 0 0 1 0 1 KIND", "36 copy 1 0 0 0 1 KIND", "36 copy 0 9 1 9 -1 KIND", "36 copy 0 0 0 1 -1 INDEX",
        "36 copy 0 0 0 1 3 INDEX", "36 copy 0 1 0 0 3 INDEX", "36 copy 0 4 0 0 0 INDEX", "36 copy 0 0 0 4 0 INDEX",
        "36 copy 0 -1 0 0 1 INDEX", "36 copy 0 0 0 -1 1 INDEX", "36 copy 0 0 2 0 1 INDEX",
        "37 lay -1 0 0 BAD", "37 lay 5 0 0 BAD", "37 lay 0 -1 0 BAD", "37 lay 0 4 0 BAD", "37 lay 0 1 -1 BAD", "37 lay 0 1 8 BAD",
        "37 lay 0 2 -1 BAD", "37 lay 0 2 4 BAD", "37 lay 5 2 3 BAD", "37 lay 0 2 3 NOTHING", "37 lay 4 2 3 NOTHING",
        "38 ask -1 0 BAD", "38 ask 5 0 BAD", "38 ask 0 -1 BAD", "38 ask 0 6 BAD", "38 ask 4 6 BAD", "38 ask 4 0 NOTHING",
        "38 ask 1 0 KIND", "38 ask 2 0 KIND", "38 ask 0 5 KIND",
        "39 item -1 0 BAD", "39 item 5 0 BAD", "39 item 4 9 NOTHING", "39 item 0 9 KIND", "39 item 2 9 KIND", "39 item 1 -1 INDEX",
        "39 item 1 3 INDEX", "39 item 1 1 KIND",
        "40 rest -1 0 BAD", "40 rest 5 0 BAD", "40 rest 4 0 NOTHING", "40 rest 0 0 KIND", "40 rest 1 0 KIND", "40 rest 2 0 NO",
        "41 tell 0 FULL", "41 tell -1 FULL",
        "45 count -1 BAD", "45 count 9 BAD",
    };

    /** A new object. */
    private static final String[] NEW_COUNTY = {
        "3 told 0 0 BAD", "4 as 0 0 BAD", "5 turns 0 0 BAD", "6 set 0 1 0 BAD", "7 thought 0 0 BAD", "8 lets 0 0 1 BAD",
        "9 says 0 0 BAD", "10 heeds 0 0 1 BAD", "19 first 0 1 NONE", "20 ear 0 1 0 0 NONE", "20 ear 0 0 0 0 BAD",
        "21 fewest 0 1 0 NONE", "21 fewest 0 0 0 BAD", "22 house 0 1 0 BAD", "23 becomes 0 1 0 BAD", "24 like 0 0 NOTHING",
        "26 fine 0 BAD", "28 trim 1 BAD", "30 textTold 0 0 BAD", "31 why 0 NONE", "33 mark 0 0 0 NOTHING", "34 pour 0 NOTHING",
        "35 reads 0 NOTHING", "36 copy 0 0 1 0 0 NOTHING", "37 lay 0 1 0 BAD", "37 lay 0 2 0 NOTHING", "38 ask 0 0 NOTHING",
        "39 item 0 0 NOTHING", "40 rest 0 1 NOTHING", "44 back NO",
    };

    private static final String TAPE = "fee 1+2*3-4+1+2*3-4+1+2*3-4+1+2*3-4+1+2*3-4+1+2*3-4+1+2*3-4+1+2*3-4+1+2*3-4+1+2*3-4+1+2*3-4+1234";

    private static int[] weeksTold = null;

    private static HearsaySeeds people() {
        HearsaySeeds x = new HearsaySeeds();
        int[] kinds = {0, 3, 4, 5, 1, 2, 0, 0};
        for (int i = 0; i < 8; i++) {
            x.person(kinds[i], i / 2, 9 - i);
        }
        for (int i = 0; i < 6; i++) {
            x.sow(i, i + 2);
            x.lets(i, i, 9 - i);
        }
        text(x, 0);
        text(x, 1);
        x.weeks(3);
        x.keep();
        return x;
    }

    /** One more text, of twelve bytes, with a digit of its number: want t+n+ and it, or fee and it. */
    private static void text(HearsaySeeds x, int number) {
        int digit = number % 10;
        if (number % 2 == 0) {
            x.feed(0x77616e74, 0x20742b6e, 0x2b303020 + (digit << 8));
        } else {
            x.feed(0x66656520, 0x30302020 + (digit << 16), 0x20202020);
        }
        Due.due("a text", x.text(), number);
    }

    private static int[] weeksTold() {
        if (weeksTold == null) {
            HearsaySeeds x = people();
            weeksTold = new int[60];
            for (int i = 0; i < 60; i += 2) {
                x.weeks(1);
                weeksTold[i] = x.count(2);
                weeksTold[i + 1] = x.count(4);
            }
        }
        return weeksTold;
    }

    private static HearsaySeeds fullCounty(boolean taped, boolean waiting) {
        HearsaySeeds x = people();
        x.weeks(2);
        x.turns(7, 5);
        for (int i = 2; i < 14; i++) {
            text(x, i);
        }
        x.sheet(0, 0, 3);
        x.mark(0, 0, 4);
        x.mark(0, 1, 11);
        x.sheet(1, 1, 3);
        x.mark(1, 1, Due.NONE);
        x.mark(1, 2, -5);
        x.sheet(2, 0, 0);
        x.lay(0, 1, 1);
        x.lay(1, 2, 1);
        x.lay(2, 3, 1234567);
        x.lay(3, 2, 0);
        for (int i = 0; i < 60 && waiting; i++) {
            x.tell(weeksTold()[i]);
        }
        for (int at = 0; at < TAPE.length() && taped; at += 12) {
            x.feed(Due.number(TAPE, at), Due.number(TAPE, at + 4), Due.number(TAPE, at + 8));
        }
        return x;
    }

    private static int code(String word) {
        switch (word) {
            case "BAD": return Due.BAD;
            case "NO": return Due.NO;
            case "FULL": return Due.FULL;
            case "NONE": return Due.NONE;
            case "NOTHING": return Due.NOTHING;
            case "KIND": return Due.KIND;
            case "INDEX": return Due.INDEX;
            case "SIZE": return Due.SIZE;
            default: return Integer.parseInt(word);
        }
    }

    private static int answer(HearsaySeeds x, String[] words) throws Exception {
        List<Class<?>> types = new ArrayList<>();
        List<Object> numbers = new ArrayList<>();
        for (int i = 2; i < words.length - 1; i++) {
            types.add(int.class);
            numbers.add(code(words[i]));
        }
        Method call = HearsaySeeds.class.getMethod(words[1], types.toArray(new Class<?>[0]));
        return (Integer) call.invoke(x, numbers.toArray());
    }

    private static void refused(String row, HearsaySeeds x, String untouched) throws Exception {
        String[] words = row.split(" ");
        Due.due(row, answer(x, words), code(words[words.length - 1]));
        Due.holds(row + " changes nothing", Look.whole(x).equals(untouched));
    }

    private static void nothingChanges() throws Exception {
        Due.sentence(1, "of several the one that stands first with it, and changes nothing");
        String full = Look.whole(fullCounty(true, true));
        Due.holds("the numbers that wait are right", full.contains("\ncheck: 0\n"));
        Due.holds("the tape is a text", full.endsWith("\ntape: 2 1267"));
        for (String row : FULL_COUNTY) {
            refused(row, fullCounty(true, true), full);
        }
        String empty = Look.whole(new HearsaySeeds());
        for (String row : NEW_COUNTY) {
            refused(row, new HearsaySeeds(), empty);
        }
    }

    private static void butTheTape() throws Exception {
        Due.sentence(29, "(but the tape and the numbers that wait, where told)");
        String untaped = Look.whole(fullCounty(false, true));
        refused("29 text FULL", fullCounty(true, true), untaped);
        HearsaySeeds x = fullCounty(true, true);
        x.trim(95);
        refused("29 text FULL", x, untaped);
        x = fullCounty(true, true);
        x.trim(8);
        refused("29 text -108", x, untaped);
        refused("29 text -100", fullCounty(false, true), untaped);
    }

    private static void butTheNumbersThatWait() throws Exception {
        Due.sentence(42, "(but the tape and the numbers that wait, where told)");
        String none = Look.whole(fullCounty(true, false));
        refused("42 check 0 BAD", fullCounty(true, true), none);
        refused("42 check 31 BAD", fullCounty(true, true), none);
        refused("42 check 30 0", fullCounty(true, true), none);
        refused("42 check 29 59", fullCounty(true, true), none);
        HearsaySeeds x = new HearsaySeeds();
        x.tell(4);
        refused("42 check 1 NO", x, Look.whole(new HearsaySeeds()));
    }

    public static void main(String[] args) throws Exception {
        nothingChanges();
        butTheTape();
        butTheNumbersThatWait();
        Due.finish();
    }
}
