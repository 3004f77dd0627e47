/** Counts the answers that are not as due. */
final class Due {
    static final int BAD = -1000000001, NO = -1000000002, FULL = -1000000003, NONE = -1000000005;
    static final int NOTHING = -1000000011, KIND = -1000000012, INDEX = -1000000013, SIZE = -1000000014;

    private static int asked = 0;
    private static int wrong = 0;
    private static String sentence = "";

    private Due() {
    }

    /** What is asked from here on is asked because of these words, which stand with that promise or in the Terms. */
    static void sentence(int promise, String words) {
        sentence = "promise " + promise + ", \"" + words + "\": ";
        holds("these words stand in the document", Doc.says(promise, words));
    }

    static void due(String call, int got, int want) {
        asked++;
        if (got != want) {
            wrong++;
            System.out.println(sentence + call + " answered " + got + ", due is " + want);
        }
    }

    static void holds(String what, boolean it) {
        due(what, it ? 1 : 0, 1);
    }

    /** Tells the tape a text of any length, cut to it behind the last twelve bytes; how many bytes it has then. */
    static int tape(HearsaySeeds x, String text) {
        x.trim(0);
        for (int at = 0; at < text.length(); at += 12) {
            x.feed(number(text, at), number(text, at + 4), number(text, at + 8));
        }
        return x.trim(text.length());
    }

    static int number(String text, int at) {
        int number = 0;
        for (int i = at; i < at + 4; i++) {
            number = number << 8 | (i < text.length() ? text.charAt(i) & 255 : 0);
        }
        return number;
    }

    static int text(HearsaySeeds x, String text) {
        tape(x, text);
        return x.text();
    }

    static void finish() {
        System.out.println(asked + " answers, " + wrong + " not as due");
        if (wrong != 0) {
            System.exit(1);
        }
    }
}
