/** What all tests share: the ERRORS, and a tally of answers that are not as due. */
final class Due {
    static final int LOW = -1000000000;
    static final int BEYOND = LOW - 1;
    static final int NONE = LOW - 2;
    static final int STATE = LOW - 3;
    static final int FULL = LOW - 4;
    static final int KIND = LOW - 5;

    private static int asked = 0;
    private static int wrong = 0;

    private Due() {
    }

    static void is(String call, long got, long want) {
        asked++;
        if (got != want) {
            wrong++;
            System.out.println(call + " answered " + got + ", due is " + want);
        }
    }

    /** Ends the test: exit code 1 if an answer was not as due. */
    static void end() {
        System.out.println(asked + " answers asked, " + wrong + " not as due");
        if (wrong != 0 || asked == 0) {
            System.exit(1);
        }
    }

    /** Feeds a text to THE TAPE, eight bytes at a time; the answer of the last feed(). */
    static int feed(GorgeWire x, String text) {
        int last = 0;
        for (int from = 0; from < text.length(); from += 8) {
            int n = Math.min(8, text.length() - from);
            long word = 0;
            for (int i = n - 1; i >= 0; i--) {
                word = word << 8 | text.charAt(from + i) & 255;
            }
            last = x.feed(word, n);
        }
        return last;
    }

    /** Makes a text the TEXT of a USE; the answer of text(). */
    static int text(GorgeWire x, int use, String text) {
        feed(x, text);
        return x.text(use);
    }
}
