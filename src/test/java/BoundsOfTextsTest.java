/** The boundary cases that the document names for promises 27 to 31, a method a sentence. */
public final class BoundsOfTextsTest {
    private static final int BAD = Due.BAD, FULL = Due.FULL, NONE = Due.NONE;
    private static final int LOW = Integer.MIN_VALUE, HIGH = Integer.MAX_VALUE;
    private static final int TEXT = -1;

    private static void due(String call, int got, int want) {
        Due.due(call, got, want);
    }

    /** A text told to a new object: where its fault is, or TEXT. */
    private static void fault(String text, int want) {
        HearsaySeeds x = new HearsaySeeds();
        due("[" + text + "]", Due.text(x, text), want == TEXT ? 0 : -100 - want);
        due("[" + text + "], texts then", x.count(5), want == TEXT ? 1 : 0);
        due("[" + text + "], bytes then", x.count(7), 0);
    }

    private static void value(String expression, int want) {
        HearsaySeeds x = new HearsaySeeds();
        due("[" + expression + "] is a text", Due.text(x, "fee " + expression), 0);
        due("[" + expression + "]", x.fee(), want);
    }

    private static String blanks(int many) {
        return " ".repeat(many);
    }

    // ---- 27

    private static void moreThan96() {
        Due.sentence(27, "FULL: it would have more than 96");
        for (int bytes = 0; bytes <= 96; bytes++) {
            HearsaySeeds x = new HearsaySeeds();
            Due.tape(x, "fee 7" + blanks(91));
            due("cut", x.trim(bytes), bytes);
            due("to " + bytes, x.feed(0x20202020, 0x20202020, 0x20202020), bytes <= 84 ? bytes + 12 : FULL);
            due("has", x.count(7), bytes <= 84 ? bytes + 12 : bytes);
            due("what it had stands", x.text(), bytes >= 5 ? 0 : bytes == 4 ? -116 : bytes == 3 ? -115 : bytes == 0 ? -112 : -100);
        }
    }

    private static void highestFirst() {
        Due.sentence(27, "Twelve bytes come to THE TAPE, the highest of each number first: how many it has");
        HearsaySeeds x = new HearsaySeeds();
        due("twelve", x.feed(0x66656520, 0x31323334, 0x2b373839), 12);
        due("twelve more", x.feed(0x2a313030, 0x30202020, 0x20202020), 24);
        due("a text", x.text(), 0);
        due("fee 1234+789*1000", x.fee(), 790234);
        for (int place = 0; place < 12; place++) {
            int[] numbers = {0x66656520, 0x20202020, 0x20202020};
            int shift = 24 - place % 4 * 8;
            numbers[place / 4] = numbers[place / 4] & ~(255 << shift) | 0xe9 << shift;
            due("a byte above 127", x.feed(numbers[0], numbers[1], numbers[2]), 12);
            // Behind the f or the fe of fee no key ends as it should.
            due("is the fault, at " + place, x.text(), -100 - (place < 3 ? 0 : place));
        }
    }

    private static void fullKeepsTheTape() {
        Due.sentence(27, "FULL: it would have more than 96");
        HearsaySeeds x = new HearsaySeeds();
        Due.tape(x, "fee" + blanks(89) + "1234");
        due("full", x.feed(-1, -1, -1), FULL);
        due("full again", x.feed(0, 0, 0), FULL);
        due("as it was", x.text(), 0);
        due("as it was", x.fee(), 1234);
        due("from the start again", x.feed(0, 0, 0), 12);
    }

    // ---- 28

    private static void boundsOfTrim() {
        Due.sentence(28, "THE TAPE keeps its first n bytes: n. BAD");
        for (int bytes : new int[] {0, 1, 12, 13, 95, 96}) {
            HearsaySeeds x = new HearsaySeeds();
            Due.tape(x, "fee 1234" + blanks(88));
            due("first " + bytes, x.trim(bytes), bytes);
            due("one more than it has", x.trim(bytes + 1), BAD);
            due("more than it can have", x.trim(97), BAD);
            for (int odd : new int[] {-1, LOW, HIGH}) {
                due("n " + odd, x.trim(odd), BAD);
            }
            due("has", x.count(7), bytes);
            due("all it has", x.trim(bytes), bytes);
            due("nothing", x.trim(0), 0);
            due("nothing again", x.trim(0), 0);
            due("one of nothing", x.trim(1), BAD);
        }
    }

    private static void keepsTheFirst() {
        Due.sentence(28, "keeps its first n bytes");
        for (int bytes = 5; bytes <= 8; bytes++) {
            HearsaySeeds x = new HearsaySeeds();
            Due.tape(x, "fee 1234");
            x.trim(bytes);
            due("a text", x.text(), 0);
            due("the first " + bytes, x.fee(), 1234 / (bytes == 5 ? 1000 : bytes == 6 ? 100 : bytes == 7 ? 10 : 1));
        }
        String[] rows = {"fee wg", "fee 1+", "fee 1)", "fee 1 1", "feed 1"};
        int[] kept = {5, 5, 5, 5, 3};
        for (int i = 0; i < rows.length; i++) {
            HearsaySeeds x = new HearsaySeeds();
            Due.tape(x, rows[i]);
            x.trim(kept[i]);
            due("what stood behind them is gone from " + rows[i], x.text(), kept[i] == 3 ? -103 : 0);
        }
        HearsaySeeds x = new HearsaySeeds();
        Due.tape(x, "fee 1234");
        x.trim(5);
        due("goes on right behind them", x.feed(0x39202020, 0x20202020, 0x20202020), 17);
        due("a text", x.text(), 0);
        due("fee 19", x.fee(), 19);
    }

    // ---- 29

    private static void fourteenTexts() {
        Due.sentence(29, "TEXTS, 14 at most, numbered from 0");
        HearsaySeeds x = new HearsaySeeds();
        for (int i = 0; i < 14; i++) {
            due("at fault, takes no number", Due.text(x, "fee"), -103);
            due("number", Due.text(x, "fee " + i), i);
            due("how many", x.count(5), i + 1);
        }
        due("the fifteenth", Due.text(x, "fee 99"), FULL);
        due("the sixteenth, of another key", Due.text(x, "want 9"), FULL);
        due("fourteen", x.count(5), 14);
        due("it does not count", x.fee(), 13);
        due("it does not count", x.why(0), NONE);
    }

    private static void nothingLeftToTheNext() {
        Due.sentence(29, "an act that reads it uses it up, whatever it answers");
        HearsaySeeds x = new HearsaySeeds();
        due("open", Due.text(x, "fee (((((((("), -112);
        due("closed by none", Due.text(x, "fee 1)"), -105);
        due("open", Due.text(x, "fee (((((((("), -112);
        due("eight again", Due.text(x, "fee ((((((((1))))))))"), 0);
        due("nots", Due.text(x, "fee !!!!!!!!"), -112);
        due("eight again", Due.text(x, "fee !!!!!!!!0"), 1);
        due("as told", x.fee(), 0);
        due("signs that wait", Due.text(x, "fee 1|2&3<4+5*"), -114);
        due("a text", Due.text(x, "fee 7"), 2);
        due("as told", x.fee(), 7);
        due("a name, then the end", Due.text(x, "fee w"), 3);
        due("a digit right behind nothing", x.text(), -100);
        due("a word first", Due.text(x, "7fee 1"), -100);
        due("no word stands ahead of the first", Due.text(x, "fee 1"), 4);
        due("a test that waits", Due.text(x, "fee 1<"), -106);
        due("is not a first one to the next", Due.text(x, "fee 1<2"), 5);
        due("a not that waits", Due.text(x, "fee !"), -105);
        due("a text", Due.text(x, "fee 7"), 6);
        due("is not the next one's", x.fee(), 7);
        due("a longer one", Due.text(x, "fee !0"), 7);
        due("and a shorter one", Due.text(x, "fee 7"), 8);
        due("as told", x.fee(), 7);
        due("a longer one", Due.text(x, "fee 5-!0"), 9);
        due("and a shorter one", Due.text(x, "fee 7-6"), 10);
        due("as told", x.fee(), 1);
    }

    private static void usedUp() {
        Due.sentence(29, "an act that reads it uses it up, whatever it answers");
        HearsaySeeds x = new HearsaySeeds();
        for (int i = 0; i < 14; i++) {
            due("a text", Due.text(x, "fee 1"), i);
            due("used up", x.count(7), 0);
            due("nothing is no text", x.text(), -100);
        }
        Due.tape(x, "fee 1");
        due("full", x.text(), FULL);
        due("used up", x.count(7), 0);
        Due.tape(x, "fee !");
        due("at fault", x.text(), -105);
        due("used up", x.count(7), 0);
    }

    private static void faultAheadOfFull() {
        Due.sentence(29, "-100 less the place of its FAULT; FULL");
        HearsaySeeds x = new HearsaySeeds();
        for (int i = 0; i < 14; i++) {
            Due.text(x, "fee 1");
        }
        due("at fault", Due.text(x, "fee 1 1"), -106);
        due("at its first byte", Due.text(x, "+"), -100);
        due("at its end", Due.text(x, "fee" + blanks(93)), -196);
        due("empty", x.text(), -100);
        due("right", Due.text(x, "fee 1"), FULL);
    }

    private static void keys() {
        Due.sentence(29, "KEY: want | fee | fine");
        for (String key : new String[] {"want", "fee", "fine"}) {
            fault(key + " 1", TEXT);
            fault(key, key.length());
            fault(key + " ", key.length() + 1);
            fault(key + "s 1", 0);
            fault("a" + key + " 1", 0);
            fault(key.substring(0, key.length() - 1) + " 1", 0);
            fault(key.substring(1) + " 1", 0);
            fault(key.toUpperCase() + " 1", 0);
            for (int i = 0; i < key.length(); i++) {
                fault(key.substring(0, i) + "z" + key.substring(i + 1) + " 1", 0);
            }
            fault("  " + key + "s 1", 2);
            fault("1 " + key + " 1", 0);
            fault("(" + key + " 1)", 0);
            fault(key + " " + key + " 1", key.length() + 1);
            fault(key + " 1 " + key, key.length() + 3);
        }
        fault("t", 0);
        fault("w 1", 0);
        fault("1", 0);
        fault("want1", 4);
        fault("fee=1", 3);
    }

    private static void namesOfKeys() {
        Due.sentence(29, "NAMES, each one letter: of want t TRUST");
        String[] keys = {"want", "fee", "fine"};
        String[] names = {"tnsv", "wg", "ts"};
        for (int key = 0; key < 3; key++) {
            for (char c = 'a'; c <= 'z'; c++) {
                boolean name = names[key].indexOf(c) >= 0;
                fault(keys[key] + " " + c, name ? TEXT : keys[key].length() + 1);
                fault(keys[key] + " " + c + c, keys[key].length() + 1);
                fault(keys[key] + " " + Character.toUpperCase(c), keys[key].length() + 1);
            }
        }
    }

    private static void digitsOfANumber() {
        Due.sentence(29, "NUMBER (1 to 4 digits)");
        fault("fee ", 4);
        for (String number : new String[] {"0", "9", "10", "99", "100", "999", "1000", "9999", "0000", "0001"}) {
            fault("fee " + number, TEXT);
            value(number, Integer.parseInt(number));
            value("1+" + number, 1 + Integer.parseInt(number));
        }
        fault("fee 10000", 4);
        fault("fee 00000", 4);
        fault("fee 00001", 4);
        fault("fee 99999", 4);
        fault("fee 123456789012", 4);
        fault("fee 1+10000", 6);
        fault("fee (10000", 5);
        fault("fee !10000", 5);
        fault("fee 1 10000", 6);
        fault("fee 12 34", 7);
    }

    private static void whereBlanksMayStand() {
        Due.sentence(29, "Between words and signs, and at the ends, there may be blanks (byte 32)");
        fault("want(t+n)*!s<v&1|2-3/4=5", TEXT);
        fault(" want ( t + n ) * ! s < v & 1 | 2 - 3 / 4 = 5 ", TEXT);
        fault("   want   (   t   +   n   )   *   !   s   <   v   &   1   |   2   ", TEXT);
        fault(blanks(89) + "fee   7", TEXT);
        fault("fee" + blanks(92) + "7", TEXT);
        fault("fee 7" + blanks(91), TEXT);
        fault("f ee 7", 0);
        fault("fee 7 7", 6);
        for (int odd : new int[] {0, 9, 10, 13, 31, 33, 160}) {
            fault("fee w" + (char) odd, 5);
            fault((char) odd + "fee w", 0);
            fault("fee" + (char) odd + "w", odd == 33 ? TEXT : 3);
            fault("fee +" + (char) odd + "w", 4);
            fault("fee 1+" + (char) odd, odd == 33 ? 7 : 6);
            fault("fee 1" + (char) odd + "+1", 5);
            fault("fee !" + (char) odd + "1", odd == 33 ? TEXT : 5);
        }
    }

    private static void wordBehindWord() {
        Due.sentence(29, "a word right behind another one needs one");
        fault("fee3", 3);
        fault("fee 3", TEXT);
        fault("want9999", 4);
        fault("want99999", 4);
        fault("fine1+1", 4);
        fault("fee 3w", 5);
        fault("fee w3", 5);
        fault("fee 3w3", 5);
        fault("fee(3)", TEXT);
        fault("fee!3", TEXT);
        fault("fee(w)w", 6);
        fault("fee w+3w", 7);
        fault("fee12345", 3);
    }

    private static void everyByte() {
        Due.sentence(29, "A word is a row of letters a .. z, or of digits, as long as it goes; any other byte is a sign by itself");
        for (int b = 0; b < 256; b++) {
            char c = (char) b;
            boolean digit = c >= '0' && c <= '9';
            boolean letter = c >= 'a' && c <= 'z';
            boolean joins = "+-*/<=>&|".indexOf(c) >= 0;
            fault("fee w" + c, c == ' ' ? TEXT : letter ? 4 : joins ? 6 : 5);
            fault("fee 7" + c, c == ' ' || digit ? TEXT : joins ? 6 : 5);
            fault("fee 7 " + c, c == ' ' ? TEXT : joins ? 7 : 6);
            fault("fee " + c, digit || c == 'w' || c == 'g' ? TEXT : c == ' ' || c == '!' || c == '(' ? 5 : 4);
            fault("fee" + c, letter ? 0 : c == ' ' || c == '!' || c == '(' ? 4 : 3);
            fault("fee (1" + c, c == ')' ? TEXT : c == ' ' || joins || digit ? 7 : 6);
            fault("" + c, c == ' ' ? 1 : 0);
        }
    }

    private static void endTooSoon() {
        Due.sentence(29, "the end (the place behind the last byte), if it comes too soon");
        fault("", 0);
        for (int many = 1; many <= 96; many++) {
            fault(blanks(many), many);
        }
        for (String cut : new String[] {"want", "want (", "want !", "want (t", "want t+", "want t<", "want t|", "want (t+(n)", "want t*("}) {
            fault(cut, cut.length());
            fault(cut + " ", cut.length() + 1);
            fault(cut + blanks(96 - cut.length()), 96);
        }
        StringBuilder longest = new StringBuilder("fee ");
        while (longest.length() < 94) {
            longest.append("1+");
        }
        fault(longest + "1+", 96);
        fault(longest + "1 ", TEXT);
        fault(longest + "12", TEXT);
        fault(longest + " w", TEXT);
        fault(longest + "ww", 94);
        fault(longest + "1)", 95);
        fault(longest + "1!", 95);
        fault(longest.substring(0, 93) + "9999", TEXT);
    }

    private static void nineBrackets() {
        Due.sentence(29, "the ninth ( that would be open within others, the ninth ! likewise, each by itself");
        for (int many = 1; many <= 12; many++) {
            fault("fee " + "(".repeat(many) + "1" + ")".repeat(many), many <= 8 ? TEXT : 12);
            fault("fee " + "!".repeat(many) + "1", many <= 8 ? TEXT : 12);
            fault("fee " + "!(".repeat(many) + "1" + ")".repeat(many), many <= 8 ? TEXT : 20);
            fault("fee " + "(!".repeat(many) + "1" + ")".repeat(many), many <= 8 ? TEXT : 20);
        }
        fault("fee ((((((((1)))))))) + ((((((((1))))))))", TEXT);
        fault("fee ((((((((1)))))))) + (((((((((1", 32);
        fault("fee (((((((1)+(1)+((1", 21);
        fault("fee (((((((1)+(1)+((1))))))))", TEXT);
        fault("fee (((((((1)+(1)+(((1", 20);
        fault("fee !!!!!!!!1+!!!!!!!!1", TEXT);
        fault("fee !!!!!!!!1+!!!!!!!!!1", 22);
        fault("fee !!!!!!!!w+!!!!!!!!w", TEXT);
        fault("fee !!!!!!!!w+!!!!!!!!!w", 22);
        fault("fee !!!!!!!!(w)+!!!!!!!!(w)", TEXT);
        fault("fee !!!!!!!!(!1)", 13);
        fault("fee !!!!!!!!(1)*!1", TEXT);
        fault("fee !!!!!!!(!1+!1+!(!1))", 20);
        fault("fee !!!!!!!(!1+!1)+!!!!!!!!1", TEXT);
        fault("fee ((((((((!!!!!!!!1))))))))", TEXT);
        fault("fee !!!!!!!!((((((((1))))))))", TEXT);
        fault("fee !!!!!!!!((((((((!1))))))))", 20);
        fault("fee ((((((((!!!!!!!!(1))))))))", 20);
    }

    private static void brackets() {
        Due.sentence(29, "PIECE: NUMBER (1 to 4 digits) | NAME | ! PIECE | ( E )");
        fault("fee ()", 5);
        fault("fee )", 4);
        fault("fee 1)", 5);
        fault("fee (1))", 7);
        fault("fee ((1)", 8);
        fault("fee (1)(1)", 7);
        fault("fee 1(1)", 5);
        fault("fee (1)!1", 7);
        fault("fee (!)", 6);
        fault("fee (1+)", 7);
        fault("fee (+1)", 5);
        fault("fee !!1", TEXT);
        fault("fee !+1", 5);
        fault("fee !)", 5);
        fault("fee 1!", 5);
    }

    private static void oneTest() {
        Due.sentence(29, "TEST: SUM [ (< | = | >) SUM ]");
        for (String a : new String[] {"<", "=", ">"}) {
            for (String b : new String[] {"<", "=", ">"}) {
                fault("fee 1" + a + "2", TEXT);
                fault("fee 1" + a + b + "2", 6);
                fault("fee 1" + a + "2" + b + "3", 7);
                fault("fee 1" + a + "2+3*4" + b + "5", 11);
                fault("fee 1" + a + "!2" + b + "5", 8);
                fault("fee 1" + a + "(2)" + b + "5", 9);
                fault("fee 1" + a + "2&3" + b + "4", TEXT);
                fault("fee 1" + a + "2|3" + b + "4", TEXT);
                fault("fee (1" + a + "2)" + b + "3", TEXT);
                fault("fee 1" + a + "(2" + b + "3)", TEXT);
                fault("fee (1" + a + "2" + b + "3", 8);
                fault("fee 1" + a + "(2" + b + "3)" + a + "4", 11);
            }
        }
    }

    private static void signsBetween() {
        Due.sentence(29, "SUM: TERM { (+ | -) TERM }; TERM: PIECE { (* | /) PIECE }");
        for (char a : "+-*/<=>&|".toCharArray()) {
            fault("fee " + a, 4);
            fault("fee " + a + "1", 4);
            fault("fee 1" + a, 6);
            fault("fee 1" + a + a + "1", 6);
            fault("fee 1" + a + ")", 6);
            fault("fee 1" + a + "!1", TEXT);
            fault("fee 1" + a + "(1)", TEXT);
            for (char b : "+-*/&|".toCharArray()) {
                fault("fee 1" + a + "2" + b + "3", TEXT);
                fault("fee 1" + b + "2" + a + "3", TEXT);
            }
        }
    }

    // ---- 29, as it is worked out (told by 25)

    private static void loosestFirst() {
        Due.sentence(25, "E, the loosest first");
        value("2+3*4", 14);
        value("2*3+4", 10);
        value("10-4-3", 3);
        value("10-4+3", 9);
        value("100/10/5", 2);
        value("100/10*5", 50);
        value("7*7/10", 4);
        value("1<2+3", 1);
        value("1+2<3", 0);
        value("3=1+2", 1);
        value("1<2&2<1", 0);
        value("1<2|2<1", 1);
        value("0&0|1", 1);
        value("1|0&0", 1);
        value("(1|0)&0", 0);
        value("0&(0|1)", 0);
        value("!0+1", 2);
        value("!(0+1)", 0);
        value("!1*5", 0);
        value("!0*5", 5);
        value("!0<1", 0);
        value("2*!0", 2);
        value("!w", 1);
        value("!w+1", 2);
        value("!!w", 0);
        value("!w*5-3", 2);
        value("!(w)+1", 2);
        value("2-(3-4)", 3);
        value("2*(3+4)", 14);
    }

    private static void oneOrZero() {
        Due.sentence(25, "tests, & | ! give 1 or 0 (what is not 0 is true; both sides are worked out)");
        value("7&9", 1);
        value("7&0", 0);
        value("0&7", 0);
        value("0&0", 0);
        value("7|0", 1);
        value("0|7", 1);
        value("7|9", 1);
        value("0|0", 0);
        value("(0-1)&(0-2)", 1);
        value("(0-1)|0", 1);
        value("!7", 0);
        value("!(0-1)", 0);
        value("!0", 1);
        value("!!7", 1);
        value("!!0", 0);
        value("1<2", 1);
        value("2<2", 0);
        value("3<2", 0);
        value("1>2", 0);
        value("2>2", 0);
        value("3>2", 1);
        value("1=2", 0);
        value("2=2", 1);
        value("3=2", 0);
        value("0-1<0", 1);
        value("0-1>0", 0);
        value("0|1/0", 0);
        value("1|1/0", 1);
    }

    private static void intsWrap() {
        Due.sentence(25, "Ints wrap; / is 0 by 0");
        String low = "8*8192*8192*4";
        value(low, LOW);
        value(low + "-1", HIGH);
        value(low + "+(0-1)", HIGH);
        value("(" + low + "-1)+1", LOW);
        value("(" + low + ")*2", 0);
        value("(" + low + ")/(0-1)", LOW);
        value("0-(" + low + ")", LOW);
        value("9999*9999*9999", 9999 * 9999 * 9999);
        value("(" + low + ")<0", 1);
        value("(" + low + "-1)>0", 1);
        value("1/0", 0);
        value("0/0", 0);
        value("9999/(5-5)", 0);
        value("(0-9999)/0", 0);
        value("(" + low + ")/0", 0);
        value("5+1/0*7", 5);
    }

    private static void cutTowardsZero() {
        Due.sentence(25, "/ cuts towards 0");
        value("7/2", 3);
        value("(0-7)/2", -3);
        value("7/(0-2)", -3);
        value("(0-7)/(0-2)", 3);
        value("1/2", 0);
        value("(0-1)/2", 0);
    }

    // ---- 30

    private static void boundsOfTextTold() {
        Due.sentence(30, "what 0 KEY (0 want, 1 fee, 2 fine), 1 how many NUMBERS and NAMES it has. BAD");
        HearsaySeeds x = new HearsaySeeds();
        String[] texts = {"want t", "fee w+g*0", "fine ((!!t))"};
        int[] leaves = {1, 3, 1};
        for (int i = 0; i < 14; i++) {
            due("not yet", x.textTold(i, 0), BAD);
            due("not yet", x.textTold(i, 1), BAD);
            Due.text(x, texts[i % 3]);
            due("key", x.textTold(i, 0), i % 3);
            due("numbers and names", x.textTold(i, 1), leaves[i % 3]);
        }
        for (int odd : new int[] {-1, 14, LOW, HIGH}) {
            due("text " + odd, x.textTold(odd, 0), BAD);
        }
        for (int odd : new int[] {-1, 2, LOW, HIGH}) {
            due("what " + odd, x.textTold(0, odd), BAD);
        }
    }

    private static void mostNumbers() {
        Due.sentence(30, "1 how many NUMBERS and NAMES it has");
        HearsaySeeds x = new HearsaySeeds();
        Due.text(x, "fee 1" + "+1".repeat(45));
        due("as many as 95 bytes hold", x.textTold(0, 1), 46);
        due("fee", x.fee(), 46);
        Due.text(x, "fee(1" + "+1".repeat(44) + ")");
        due("one less", x.textTold(1, 1), 45);
        due("fee", x.fee(), 45);
        Due.text(x, "fee w*9999");
        due("a number is one, whatever its digits", x.textTold(2, 1), 2);
    }

    // ---- 31

    private static void boundsOfWhy() {
        Due.sentence(31, "The TEXT that counts for a KEY. BAD; NONE");
        HearsaySeeds x = new HearsaySeeds();
        for (int key = 0; key < 3; key++) {
            due("none", x.why(key), NONE);
        }
        for (int odd : new int[] {-1, 3, LOW, HIGH}) {
            due("key " + odd, x.why(odd), BAD);
        }
        Due.text(x, "fine 1");
        due("fine", x.why(2), 0);
        due("none of want", x.why(0), NONE);
        due("none of fee", x.why(1), NONE);
        due("key 3", x.why(3), BAD);
    }

    private static void toldLast() {
        Due.sentence(31, "Of a KEY that TEXT counts that was told last");
        HearsaySeeds x = new HearsaySeeds();
        Due.text(x, "fee 10");
        Due.text(x, "want 11");
        Due.text(x, "fee 12");
        due("fee", x.why(1), 2);
        due("fee", x.fee(), 12);
        due("want", x.why(0), 1);
        Due.text(x, "fee 13 13");
        due("one at fault does not count", x.why(1), 2);
        due("one at fault does not count", x.fee(), 12);
        Due.text(x, "fee 10");
        due("the same once more", x.why(1), 3);
        for (int i = 4; i < 14; i++) {
            Due.text(x, "want " + i);
        }
        Due.text(x, "fee 99");
        due("one too many does not count", x.why(1), 3);
        due("one too many does not count", x.fee(), 10);
        due("the last of all", x.why(0), 13);
    }

    public static void main(String[] args) {
        moreThan96();
        highestFirst();
        fullKeepsTheTape();
        boundsOfTrim();
        keepsTheFirst();
        fourteenTexts();
        usedUp();
        nothingLeftToTheNext();
        faultAheadOfFull();
        keys();
        namesOfKeys();
        digitsOfANumber();
        whereBlanksMayStand();
        wordBehindWord();
        everyByte();
        endTooSoon();
        nineBrackets();
        brackets();
        oneTest();
        signsBetween();
        loosestFirst();
        oneOrZero();
        intsWrap();
        cutTowardsZero();
        boundsOfTextTold();
        mostNumbers();
        boundsOfWhy();
        toldLast();
        Due.finish();
    }
}
