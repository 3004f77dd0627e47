import java.util.Random;

/** Promises 27 to 31: the tape, texts and their faults. */
public final class TextsTest {
    private static final int BAD = Due.BAD, FULL = Due.FULL, NONE = Due.NONE;

    private static void due(String call, int got, int want) {
        Due.due(call, got, want);
    }

    private static void tape() {
        HearsaySeeds x = new HearsaySeeds();
        due("28: nothing to keep", x.trim(1), BAD);
        due("28: nothing", x.trim(0), 0);
        for (int i = 1; i <= 8; i++) {
            due("27: bytes", x.feed(0x20202020, 0x20202020, 0x20202020), 12 * i);
        }
        due("27: full", x.feed(0, 0, 0), FULL);
        due("27: as it was", x.count(7), 96);
        due("28: below", x.trim(-1), BAD);
        due("28: above", x.trim(97), BAD);
        due("28: as it was", x.trim(96), 96);
        due("28: first bytes", x.trim(85), 85);
        due("27: it would have 97", x.feed(0, 0, 0), FULL);
        due("28: first bytes", x.trim(84), 84);
        due("27: 96 again", x.feed(0, 0, 0), 96);
        due("29: the fault behind 84 blanks", x.text(), -100 - 84);
        due("29: used up", x.count(7), 0);
        due("27: highest first", x.feed(0x66656520, 0x20373431, 0x20202020), 12);
        due("29: a text", x.text(), 0);
        due("25: fee", x.fee(), 741);
    }

    /** The fault of a text told to a new object; -1 if it is one. */
    private static void fault(String text, int want) {
        HearsaySeeds x = new HearsaySeeds();
        due("29: " + text, Due.text(x, text), want < 0 ? 0 : -100 - want);
        due("29: used up by " + text, x.count(7), 0);
        due("29: how many", x.count(5), want < 0 ? 1 : 0);
    }

    private static void faults() {
        fault("", 0);
        fault("   ", 3);
        fault("want", 4);
        fault("want ", 5);
        fault("want t", -1);
        fault("  want  t  ", -1);
        fault("wantt", 0);
        fault(" wan t", 1);
        fault("wants t", 0);
        fault("Want t", 0);
        fault("1 want", 0);
        fault("(want t)", 0);
        fault("want3", 4);
        fault("want 3", -1);
        fault("want(3)", -1);
        fault("want!3", -1);
        fault("want 3t", 6);
        fault("want t3", 6);
        fault("want t t", 7);
        fault("want 3 3", 7);
        fault("want tt", 5);
        fault("want tz", 5);
        fault("want ta", 5);
        fault("want 1a", 6);
        fault("fine\0s", 4);
        fault("xine s", 0);
        fault("wanx s", 0);
        fault("want w", 5);
        fault("want g", 5);
        fault("fee w+g", -1);
        fault("fee t", 4);
        fault("fee s", 4);
        fault("fee n", 4);
        fault("fee v", 4);
        fault("fine t+s", -1);
        fault("fine n", 5);
        fault("fine v", 5);
        fault("fine w", 5);
        fault("fine want", 5);
        fault("want T", 5);
        fault("want 0", -1);
        fault("want 9999", -1);
        fault("want 00000", 5);
        fault("want 12345", 5);
        fault("want t + 12345", 9);
        fault("want t 12345", 7);
        fault("want t +", 8);
        fault("want t + ", 9);
        fault("want + t", 5);
        fault("want - 1", 5);
        fault("want t + - 1", 9);
        fault("want t ! 1", 7);
        fault("want t !", 7);
        fault("want !", 6);
        fault("want ()", 6);
        fault("want (t", 7);
        fault("want (t ", 8);
        fault("want (t))", 8);
        fault("want t)", 6);
        fault("want )", 5);
        fault("want (t) (t)", 9);
        fault("want t (t)", 7);
        fault("want (t)t", 8);
        fault("want (t)3", 8);
        fault("want 1<2<3", 8);
        fault("want 1<2+3>4", 10);
        fault("want 1=2=3", 8);
        fault("want (1<2)<3", -1);
        fault("want 1<(2<3)", -1);
        fault("want 1<2&3<4|5=6", -1);
        fault("want 1<2&3<4|5=6=7", 16);
        fault("want !1<!2", -1);
        fault("want 1 <= 2", 8);
        fault("want 1 && 2", 8);
        fault("want 1 % 2", 7);
        fault("want 1, 2", 6);
        fault("want t\t", 6);
        fault("want t\0", 6);
        fault("want \u00e9", 5);
        fault("want t\u00a0", 6);
        fault("want t want t", 7);
    }

    /** What stood behind the bytes that are kept is gone. */
    private static void trimmed() {
        String[] rows = {"want tttttttttttttttttttt", "fee 99999999999999999999", "fine t                ", "fee 5+++++++++++++++"};
        int[] kept = {6, 8, 6, 5};
        for (int i = 0; i < rows.length; i++) {
            HearsaySeeds x = new HearsaySeeds();
            Due.tape(x, rows[i]);
            due("28: kept", x.trim(kept[i]), kept[i]);
            due("29: " + rows[i], x.text(), 0);
        }
        HearsaySeeds x = new HearsaySeeds();
        Due.tape(x, "want tttttttttttttttttttt");
        x.trim(5);
        due("29: the end too soon", x.text(), -105);
        x.trim(0);
        due("29: nothing", x.text(), -100);
    }

    /** A text that was at fault leaves nothing to the next. */
    private static void oneBehindTheOther() {
        HearsaySeeds x = new HearsaySeeds();
        due("29: open", Due.text(x, "want ((((((t"), -112);
        due("29: closed by none", Due.text(x, "want t)"), -106);
        due("29: open", Due.text(x, "want ((((((t"), -112);
        due("29: eight again", Due.text(x, "want ((((((((t))))))))"), 0);
        due("29: nots", Due.text(x, "fee !!!!!!!!"), -112);
        due("29: eight again", Due.text(x, "fee !!!!!!!!0"), 1);
        due("25: as told", x.fee(), 0);
        due("29: signs", Due.text(x, "fee 1<2+"), -108);
        due("29: a text", Due.text(x, "fee 3>2"), 2);
        due("30: its own numbers alone", x.textTold(2, 1), 2);
        due("25: as told", x.fee(), 1);
    }

    private static void depths() {
        String eight = "((((((((";
        String closed = "))))))))";
        fault("want " + eight + "t" + closed, -1);
        fault("want " + eight + "(t" + closed + ")", 13);
        fault("want " + eight + "t" + closed + "+" + eight + "t" + closed, -1);
        fault("want (t)+" + eight + "(t", 17);
        fault("want " + eight + "t)+(t)" + closed.substring(1), -1);
        fault("want !!!!!!!!t", -1);
        fault("want !!!!!!!!!t", 13);
        fault("want !!!!!!!!t+!!!!!!!!t", -1);
        fault("want !!!!!!!!(t+!t)", 16);
        fault("want !!!!!!!(t+!t+!!t)", 19);
        fault("want !!!!!!!(t+!t)+!t", -1);
        fault("want !(!(!(!(!(!(!(!(t" + closed, -1);
        fault("want !(!(!(!(!(!(!(!(!t" + closed, 21);
        fault("want !(!(!(!(!(!(!(!((t" + closed, 21);
        fault("want !!!!!!!!" + eight + "t" + closed, -1);
        fault("want " + eight + "!!!!!!!!t" + closed, -1);
        fault("want " + eight + "t+t*t-(t)" + closed, 19);
    }

    private static void longest() {
        StringBuilder text = new StringBuilder("fee 1");
        while (text.length() < 95) {
            text.append("+1");
        }
        HearsaySeeds x = new HearsaySeeds();
        due("29: 95 bytes", Due.text(x, text.toString()), 0);
        due("30: numbers", x.textTold(0, 1), 46);
        due("25: sum", x.fee(), 46);
        due("29: 96 bytes, the end too soon", Due.text(x, text + "+"), -196);
        due("29: 96 bytes", Due.text(x, text + " "), 1);
        due("29: 96 bytes", Due.text(x, text + "7"), 2);
        due("25: sum", x.fee(), 45 + 17);
        StringBuilder blanks = new StringBuilder("fee ");
        while (blanks.length() < 95) {
            blanks.append(' ');
        }
        due("29: a name as the last byte", Due.text(x, blanks + "w"), 3);
        due("29: a sign as the last byte", Due.text(x, blanks + "!"), -196);
        String wide = "fee 1|1&1<1+1*(1|1&1<1+1*(1|1&1<1+1*(1|1&1<1+1*(1|1&1<1+1*(1|1&1<1+1*(1|0&1<1+1*(5)))))))";
        due("29: many signs waiting", Due.text(x, wide), 4);
        due("25: true", x.fee(), 1);
    }

    private static void value(String expression, int want) {
        HearsaySeeds x = new HearsaySeeds();
        Due.text(x, "fee " + expression);
        due("25: " + expression, x.fee(), want);
    }

    private static void values() {
        value("7", 7);
        value("0012", 12);
        value("2+3*4", 14);
        value("(2+3)*4", 20);
        value("20-5-3", 12);
        value("100/5/2", 10);
        value("7/2*2", 6);
        value("7*2/4", 3);
        value("(0-7)/2", -3);
        value("5/0", 0);
        value("(0-5)/(2-2)", 0);
        value("9999*9999*9999", 9999 * 9999 * 9999);
        value("1<2", 1);
        value("2<2", 0);
        value("2=2", 1);
        value("2>1+1", 0);
        value("3>1+1", 1);
        value("5&7", 1);
        value("5&0", 0);
        value("0|7", 1);
        value("0|0", 0);
        value("0-1|0", 1);
        value("1|0&0", 1);
        value("(1|0)&0", 0);
        value("0&0|1", 1);
        value("!5", 0);
        value("!0", 1);
        value("!!5", 1);
        value("!0+1", 2);
        value("!0*5", 5);
        value("!(1<2)", 0);
        value("!1=0", 1);
        value("1<2&3<4", 1);
        value("1<2&4<3|5", 1);
        value("3=1|2", 1);
        value("(0-2147)*1000*1000/(0-1)", 2147000000);
        value("4*8192*8192*8/(0-1)", Integer.MIN_VALUE);
        value("1-2<0", 1);
    }

    private static void numbersAndKeys() {
        HearsaySeeds x = new HearsaySeeds();
        due("31: none", x.why(0), NONE);
        due("30: none", x.textTold(0, 0), BAD);
        due("29: number", Due.text(x, "want (t + n) * s - v / 2 < !3"), 0);
        due("29: number", Due.text(x, "fine 5"), 1);
        due("31: want", x.why(0), 0);
        due("31: fee", x.why(1), NONE);
        due("31: fine", x.why(2), 1);
        due("29: number", Due.text(x, "fee w"), 2);
        due("29: number", Due.text(x, "want 1"), 3);
        due("31: told last", x.why(0), 3);
        int[] keys = {0, 2, 1, 0};
        int[] leaves = {6, 1, 1, 1};
        for (int i = 0; i < 4; i++) {
            due("30: key", x.textTold(i, 0), keys[i]);
            due("30: numbers and names", x.textTold(i, 1), leaves[i]);
        }
        due("30: what", x.textTold(0, 2), BAD);
        due("30: what", x.textTold(0, -1), BAD);
        due("30: text", x.textTold(4, 0), BAD);
        due("30: text", x.textTold(-1, 0), BAD);
        due("31: key", x.why(3), BAD);
        due("31: key", x.why(-1), BAD);
        for (int i = 4; i < 14; i++) {
            due("29: number", Due.text(x, "fee " + i), i);
        }
        due("29: full", Due.text(x, "fee 99"), FULL);
        due("29: used up", x.count(7), 0);
        due("29: the fault ahead of full", Due.text(x, "fee 99 9"), -107);
        due("29: fourteen", x.count(5), 14);
        due("25: the last that was told", x.fee(), 13);
        due("31: told last", x.why(1), 13);
    }

    /** Words and signs by lot, held against the oracle's reader. */
    private static void byLot() {
        Random lot = new Random(7);
        String[] parts = {"t", "s", "w", "g", "n", "v", "0", "1", "23", "9999", "10000", "+", "-", "*", "/", "<", "=", ">",
            "&", "|", "!", "!", "(", "(", ")", ")", " ", " ", "x", ".", "t", "w", "3"};
        int right = 0;
        for (int i = 0; i < 40000; i++) {
            StringBuilder text = new StringBuilder(lot.nextInt(9) == 0 ? "want" : lot.nextInt(3) == 0 ? "fine " : "fee ");
            int many = lot.nextInt(12);
            for (int k = 0; k < many; k++) {
                text.append(parts[lot.nextInt(parts.length)]);
            }
            HearsaySeeds x = new HearsaySeeds();
            Oracle o = new Oracle();
            byte[] bytes = new byte[text.length()];
            for (int k = 0; k < bytes.length; k++) {
                bytes[k] = (byte) text.charAt(k);
            }
            o.tape = bytes;
            int want = o.call("text", new int[0]);
            right += want == 0 ? 1 : 0;
            due("29: by lot: " + text, Due.text(x, text.toString()), want);
            due("25: by lot: " + text, x.fee(), o.call("fee", new int[0]));
            due("30: by lot: " + text, x.textTold(0, 1), o.call("textTold", new int[] {0, 1}));
        }
        Due.holds("some texts by lot are right", right > 1000);
    }

    public static void main(String[] args) {
        tape();
        faults();
        trimmed();
        oneBehindTheOther();
        depths();
        longest();
        values();
        numbersAndKeys();
        byLot();
        Due.finish();
    }
}
