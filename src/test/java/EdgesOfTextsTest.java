/** Terms 2 and promises 12 to 14: each sentence that names an edge, one function for each. */
public final class EdgesOfTextsTest {
    private static final int MIN = Integer.MIN_VALUE;
    private static final int MAX = Integer.MAX_VALUE;

    public static void main(String[] args) {
        feedTakesOneToEightBytes();
        feedTakesTheLowestBytesFirst();
        feedLeavesHigherBytesOut();
        feedIsFullBeyondFiftyBytes();
        feedThatIsFullBringsNoByte();
        feedAsksBeyondThenFull();
        textTakesTwoUses();
        textThatIsRefusedKeepsTheTape();
        textOfAnEmptyTapeIsAFault();
        textOfAFullTapeIsTaken();
        textWithAFaultKeepsTheOneAhead();
        textWithAFaultIsNoError();
        textEmptiesTheTape();
        faultIsTheFirstByteThatDoesNotGoOn();
        faultIsTheLengthOfOneThatEndsTooEarly();
        numbersHaveOneToFourDigits();
        fiveMayBeOpenAtOnce();
        whatIsClosedCountsNoMore();
        onlyOneComparisonStands();
        blanksAndOtherBytesAreFaults();
        namesAreThoseOfTheUse();
        intsWrap();
        quotientsAreCutTowardZero();
        byZeroIsZero();
        truthIsOneOrZero();
        wearIsHeld();
        wearIsHeldForRidesToo();
        wearWithoutAText();
        goesWithoutAText();
        goesGivesAnyNumber();
        lawTakesTwoUses();
        lawTakesAnyNumbers();
        Due.end();
    }

    private static void feedTakesOneToEightBytes() {
        Edge.ends("feed(word, n)", 1, 8, Whole::some, (x, v) -> x.feed(0x3131313131313131L, v));
        Edge.ends("feed(word, n)", 1, 8, Whole::fresh, (x, v) -> x.feed(-1L, v));
        for (int n = 1; n <= 8; n++) {
            Due.is("feed(word, " + n + ")", new GorgeWire().feed(0, n), n);
        }
    }

    private static void feedTakesTheLowestBytesFirst() {
        GorgeWire x = new GorgeWire();
        Due.is("8 bytes", x.feed(0x312d_392d_3737_2d77L, 8), 8);
        Due.is("w-77-9-1", x.text(1), 1);
        Due.is("its worth", x.law(1, 100, 0, 0, 0), 13);
        Due.is("the highest byte is one, too", x.feed(0xFF2b_312b_312b_312bL, 8), 8);
        Due.is("the lowest is the FAULT", x.text(1), -10);
        Due.is("the highest byte", x.feed(0xFF31_2b31_2b31_2b31L, 8), 8);
        Due.is("is the FAULT", x.text(1), -17);
    }

    private static void feedLeavesHigherBytesOut() {
        GorgeWire x = new GorgeWire();
        Due.is("one byte", x.feed(0xFFFF_FFFF_FFFF_FF37L, 1), 1);
        Due.is("7", x.text(1), 1);
        Due.is("its worth", x.law(1, 0, 0, 0, 0), 7);
        Due.is("seven bytes", x.feed(0xFF37_2b37_2b37_2b37L, 7), 7);
        Due.is("7+7+7+7", x.text(1), 1);
        Due.is("its worth", x.law(1, 0, 0, 0, 0), 28);
    }

    private static GorgeWire withBytes(int n) {
        GorgeWire x = new GorgeWire();
        for (int left = n; left > 0; left -= 8) {
            x.feed(0x3131313131313131L, Math.min(8, left));
        }
        return x;
    }

    private static void feedIsFullBeyondFiftyBytes() {
        for (int n = 1; n <= 8; n++) {
            int one = n;
            Edge.taken("the last " + n, 50, () -> withBytes(50 - one), x -> x.feed(0, one));
            Edge.refused("one more than the last " + n, Due.FULL, () -> withBytes(51 - one), x -> x.feed(0, one));
            Edge.refused(n + " to a full one", Due.FULL, Whole::full, x -> x.feed(0, one));
        }
    }

    private static void feedThatIsFullBringsNoByte() {
        GorgeWire x = withBytes(49);
        Due.is("two of one", x.feed(0x3131, 2), Due.FULL);
        Due.is("none came", x.count(5), 49);
        Due.is("there is room for one", x.feed(0x31, 1), 50);
        Due.is("none for another", x.feed(0x31, 1), Due.FULL);
        Due.is("FAULT at the fifth digit", x.text(0), -14);
        Due.is("there is room again", x.feed(0x31, 1), 1);
    }

    private static void feedAsksBeyondThenFull() {
        Edge.refused("feed(0, 9) to a full one", Due.BEYOND, Whole::full, x -> x.feed(0, 9));
        Edge.refused("feed(0, 0) to a full one", Due.BEYOND, Whole::full, x -> x.feed(0, 0));
        Edge.refused("feed(0, MAX) to a full one", Due.BEYOND, Whole::full, x -> x.feed(0, MAX));
        Edge.refused("feed(0, MIN) to a full one", Due.BEYOND, Whole::full, x -> x.feed(0, MIN));
    }

    private static void textTakesTwoUses() {
        Edge.ends("text(use)", 0, 1, Whole::some, GorgeWire::text);
        Edge.ends("text(use)", 0, 1, Whole::full, GorgeWire::text);
        Edge.ends("text(use)", 0, 1, Whole::fresh, GorgeWire::text);
    }

    private static void textThatIsRefusedKeepsTheTape() {
        for (int use : new int[] {-1, 2}) {
            GorgeWire x = new GorgeWire();
            Due.feed(x, "12-");
            Due.is("text(" + use + ")", x.text(use), Due.BEYOND);
            Due.is("THE TAPE stays", x.count(5), 3);
            x.feed('5', 1);
            Due.is("text(1)", x.text(1), 1);
            Due.is("12-5", x.law(1, 0, 0, 0, 0), 7);
        }
    }

    private static void textOfAnEmptyTapeIsAFault() {
        for (int use = 0; use <= 1; use++) {
            int one = use;
            Edge.taken("text of nothing", -10, Whole::fresh, x -> x.text(one));
            Edge.onlyLooks("text of nothing", Whole::fresh, x -> x.text(one));
        }
    }

    private static void textOfAFullTapeIsTaken() {
        GorgeWire x = new GorgeWire();
        String fifty = "w+1+1+1+1+1+1+1+1+1+1+1+1+1+1+1+1+1+1+1+1+1+1+1+12";
        Due.is("50 bytes", Due.feed(x, fifty), 50);
        Due.is("text(1)", x.text(1), 1);
        Due.is("its worth", x.law(1, 1000, 0, 0, 0), 1000 + 23 + 12);
        Due.is("50 bytes of WEAR", Due.text(x, 0, fifty), 1);
        Due.is("its worth", x.law(0, 1, 0, 0, 0), 1 + 23 + 12);
    }

    private static void textWithAFaultKeepsTheOneAhead() {
        for (int use = 0; use <= 1; use++) {
            GorgeWire x = new GorgeWire();
            Due.is("a FAULT, without one ahead", Due.text(x, use, "7+"), -12);
            Due.is("without a TEXT still", x.law(use, 200, 0, 41, 0), use == 0 ? 2 : 1);
            Due.is("w+1", Due.text(x, use, "w+1"), 1);
            Due.is("a FAULT", Due.text(x, use, "8)"), -11);
            Due.is("a FAULT at once", Due.text(x, use, "*"), -10);
            Due.is("a FAULT of nothing", x.text(use), -10);
            Due.is("w+1 still", x.law(use, 40, 0, 0, 0), 41);
            Due.is("one in its place", Due.text(x, use, "w+2"), 1);
            Due.is("w+2", x.law(use, 40, 0, 0, 0), 42);
        }
    }

    private static void textWithAFaultIsNoError() {
        GorgeWire x = new GorgeWire();
        Due.text(x, 0, "((((((");
        Due.text(x, 1, "");
        for (int k = 1; k <= 5; k++) {
            Due.is("told(" + k + ")", x.told(k), 0);
        }
    }

    private static void textEmptiesTheTape() {
        GorgeWire x = new GorgeWire();
        Due.text(x, 0, "12");
        Due.is("behind a TEXT", x.count(5), 0);
        Due.text(x, 0, "12+");
        Due.is("behind a FAULT", x.count(5), 0);
        Due.text(x, 1, "34");
        Due.is("nothing of these came", x.law(1, 0, 0, 0, 0), 34);
    }

    /** The FAULT of a text; -1: none. */
    private static void fault(int use, String text, int due) {
        Due.is("text(" + use + ") of '" + text + "'", Due.text(new GorgeWire(), use, text), due < 0 ? 1 : -10 - due);
    }

    private static void faultIsTheFirstByteThatDoesNotGoOn() {
        fault(0, "+1", 0);
        fault(0, ")", 0);
        fault(0, "1++1", 2);
        fault(0, "1)", 1);
        fault(0, "(1))", 3);
        fault(0, "()", 1);
        fault(0, "1(", 1);
        fault(0, "1!", 1);
        fault(0, "!)", 1);
        fault(0, "1|&1", 2);
        fault(0, "1+1x+", 3);
        fault(0, "x+((((((", 0);
        fault(0, "1+1+1+1+1+1+1+1+1+1+1+1+1+1+1+1+1+1+1+1+1+1+1+1+1)", 49);
    }

    private static void faultIsTheLengthOfOneThatEndsTooEarly() {
        fault(0, "", 0);
        fault(0, "!", 1);
        fault(0, "(", 1);
        fault(0, "(((((", 5);
        fault(0, "!!!!!", 5);
        fault(0, "(1", 2);
        fault(0, "1<", 2);
        fault(0, "1&", 2);
        fault(0, "1%", 2);
        fault(0, "(((((1", 6);
        fault(0, "1+1+1+1+1+1+1+1+1+1+1+1+1+1+1+1+1+1+1+1+1+1+1+1+1+", 50);
        fault(0, "(1+1+1+1+1+1+1+1+1+1+1+1+1+1+1+1+1+1+1+1+1+1+1+1+1", 50);
    }

    private static void numbersHaveOneToFourDigits() {
        for (int use = 0; use <= 1; use++) {
            fault(use, "0", -1);
            fault(use, "9", -1);
            fault(use, "9999", -1);
            fault(use, "0000", -1);
            fault(use, "99999", 4);
            fault(use, "00000", 4);
            fault(use, "w+12345", 6);
            fault(use, "(12345)", 5);
            fault(use, "!12345", 5);
            fault(use, "w1", 1);
            fault(use, "1w", 1);
            fault(use, "(1)1", 3);
        }
        GorgeWire x = new GorgeWire();
        Due.text(x, 1, "9999");
        Due.is("the greatest", x.law(1, 0, 0, 0, 0), 9999);
        Due.text(x, 1, "0007");
        Due.is("zeros ahead", x.law(1, 0, 0, 0, 0), 7);
    }

    private static void fiveMayBeOpenAtOnce() {
        fault(0, "(((((1)))))", -1);
        fault(0, "((((((1))))))", 5);
        fault(0, "!!!!!1", -1);
        fault(0, "!!!!!!1", 5);
        fault(0, "!(!(!1))", -1);
        fault(0, "(!(!(1)))", -1);
        fault(0, "!(!(!(1)))", 5);
        fault(0, "(!(!(!1)))", 5);
        fault(0, "1+(((((1+(1)))))", 9);
        fault(0, "(((((1+!1)))))", 7);
    }

    private static void whatIsClosedCountsNoMore() {
        fault(0, "(((((1)))))+(((((1)))))", -1);
        fault(0, "!!!!!1+!!!!!1+!!!!!1", -1);
        fault(0, "((((!1+!1+(1)))))", -1);
        fault(0, "((((1)+(1)))+(1))", -1);
        fault(0, "!!!!(1)+!!!!(1)", -1);
        fault(0, "!!!!!(1)", 5);
        fault(0, "((((!1+(!1", 8);
    }

    private static void onlyOneComparisonStands() {
        fault(0, "1<2", -1);
        fault(0, "1<2<3", 3);
        fault(0, "1=2>3", 3);
        fault(0, "1>2+3=4", 5);
        fault(0, "(1<2)<3", -1);
        fault(0, "1<(2<3)", -1);
        fault(0, "1<2&2<3|3<4", -1);
        fault(0, "1<=2", 2);
        fault(0, "1==2", 2);
    }

    private static void blanksAndOtherBytesAreFaults() {
        for (int c = 0; c < 256; c++) {
            GorgeWire x = new GorgeWire();
            x.feed(c, 1);
            boolean opens = "(!".indexOf(c) >= 0;
            boolean stands = "0123456789wps".indexOf(c) >= 0;
            Due.is("the byte " + c, x.text(0), opens ? -11 : stands ? 1 : -10);
            x.feed('1' | (long) c << 8, 2);
            boolean joins = "+-*/%<=>&|".indexOf(c) >= 0;
            boolean isDigit = "0123456789".indexOf(c) >= 0;
            Due.is("1 and the byte " + c, x.text(0), joins ? -12 : isDigit ? 1 : -11);
        }
        fault(0, " 1", 0);
        fault(0, "1 +1", 1);
        fault(0, "1\n", 1);
    }

    private static void namesAreThoseOfTheUse() {
        String[] names = {"wps", "wvst"};
        for (int use = 0; use <= 1; use++) {
            for (char c = 'A'; c <= 'z'; c++) {
                fault(use, String.valueOf(c), names[use].indexOf(c) >= 0 ? -1 : 0);
            }
        }
        GorgeWire x = new GorgeWire();
        for (int i = 0; i < 3; i++) {
            Due.text(x, 0, names[0].substring(i, i + 1));
            Due.is("the WEAR's name " + i, x.law(0, 11, 22, 33, 44), 11 * (i + 1));
        }
        for (int i = 0; i < 4; i++) {
            Due.text(x, 1, names[1].substring(i, i + 1));
            Due.is("the GOES' name " + i, x.law(1, 11, 22, 33, 44), 11 * (i + 1));
        }
    }

    private static void worth(String text, int w, int v, int due) {
        GorgeWire x = new GorgeWire();
        Due.is("text(1) of " + text, Due.text(x, 1, text), 1);
        Due.is(text + " of " + w + ", " + v, x.law(1, w, v, 0, 0), due);
    }

    private static void intsWrap() {
        worth("w+v", MAX, 1, MIN);
        worth("w-v", MIN, 1, MAX);
        worth("w*v", MIN, -1, MIN);
        worth("w*v", 65536, 65536, 0);
        worth("w*v", MAX, 2, -2);
        worth("w/v", MIN, -1, MIN);
        worth("w%v", MIN, -1, 0);
        worth("0-w", MIN, 0, MIN);
        worth("w<v", MIN, MAX, 1);
        worth("w>v", MIN, MAX, 0);
        worth("w+1<w", MAX, 0, 1);
    }

    private static void quotientsAreCutTowardZero() {
        worth("w/v", -7, 2, -3);
        worth("w/v", 7, -2, -3);
        worth("w/v", -7, -2, 3);
        worth("w%v", -7, 2, -1);
        worth("w%v", 7, -2, 1);
        worth("w%v", -7, -2, -1);
        worth("w/v", 1, 2, 0);
        worth("w/v", -1, 2, 0);
    }

    private static void byZeroIsZero() {
        worth("w/v", 7, 0, 0);
        worth("w%v", 7, 0, 0);
        worth("w/v", MIN, 0, 0);
        worth("w%v", MIN, 0, 0);
        worth("w/0+5", 7, 0, 5);
        worth("w%0*9+5", 7, 0, 5);
        worth("0/v", 0, 0, 0);
        worth("7/(v-v)", 0, 3, 0);
    }

    private static void truthIsOneOrZero() {
        worth("w|v", 0, 0, 0);
        worth("w|v", -5, 0, 1);
        worth("w|v", 0, 7, 1);
        worth("w&v", 4, 2, 1);
        worth("w&v", MIN, MAX, 1);
        worth("w&v", 4, 0, 0);
        worth("w&v", 0, 4, 0);
        worth("!w", 0, 0, 1);
        worth("!w", -1, 0, 0);
        worth("!w", MIN, 0, 0);
        worth("!!w", 9, 0, 1);
        worth("w=v", MIN, MIN, 1);
        worth("w=v", 0, MIN, 0);
        worth("w<v", 3, 3, 0);
        worth("w>v", 3, 3, 0);
        worth("w<v", 2, 3, 1);
        worth("w>v", 4, 3, 1);
    }

    private static void wearIsHeld() {
        GorgeWire x = new GorgeWire();
        Due.text(x, 0, "w");
        int[][] toldAndHeld = {{MIN, 0}, {-1, 0}, {0, 0}, {1, 1}, {98, 98}, {99, 99}, {100, 99}, {MAX, 99}};
        for (int[] t : toldAndHeld) {
            Due.is("WEAR of " + t[0], x.law(0, t[0], 0, 0, 0), t[1]);
        }
        Due.text(x, 1, "w");
        for (int[] t : toldAndHeld) {
            Due.is("GOES of " + t[0], x.law(1, t[0], 0, 0, 0), t[0]);
        }
    }

    private static void wearIsHeldForRidesToo() {
        String[] wears = {"0-1", "0", "1", "99", "100", "9999"};
        int[] due = {0, 0, 1, 99, 99, 99};
        for (int i = 0; i < wears.length; i++) {
            GorgeWire x = new GorgeWire();
            x.wire(8, 500);
            x.ride(0, 1, 0);
            x.start(0, 3000, 300);
            Due.text(x, 0, wears[i]);
            x.ticks(1);
            Due.is("STRANDS by WEAR " + wears[i], x.strands(0), 500 - due[i]);
        }
    }

    private static void wearWithoutAText() {
        GorgeWire x = new GorgeWire();
        int[][] weightPaceWear = {{99, 100, 0}, {100, 100, 1}, {99, 101, 1}, {100, 101, 2}, {300, 300, 4},
            {9899, 101, 99}, {9900, 100, 99}, {9900, 101, 99}, {MAX, MAX, 99}, {-99, 100, 0}, {-100, 101, 0},
            {-200, 101, 0}, {MIN, MAX, 0}, {0, MIN, 0}};
        for (int[] w : weightPaceWear) {
            Due.is("WEAR of " + w[0] + ", " + w[1], x.law(0, w[0], w[1], 7, 7), w[2]);
        }
    }

    private static void goesWithoutAText() {
        GorgeWire x = new GorgeWire();
        Due.is("s*5 is w", x.law(1, 500, 0, 100, 0), 0);
        Due.is("s*5 is one more", x.law(1, 499, 0, 100, 0), 1);
        Due.is("s*5 gone round", x.law(1, 0, 0, MAX, 0), 1);
        Due.is("s*5 gone round below 0", x.law(1, 0, 0, 429496730, 0), 0);
        Due.is("all below 0", x.law(1, MIN, 0, -1, 0), 1);
    }

    private static void goesGivesAnyNumber() {
        for (int k = 0; k <= 6; k++) {
            int v = Due.LOW - k;
            Edge.taken("law of " + v, v, () -> {
                GorgeWire x = new GorgeWire();
                Due.text(x, 1, "w");
                return x;
            }, x -> x.law(1, v, 0, 0, 0));
        }
    }

    private static void lawTakesTwoUses() {
        Edge.ends("law(use, ..)", 0, 1, Whole::some, (x, v) -> x.law(v, 1, 2, 3, 4));
        Edge.ends("law(use, ..)", 0, 1, Whole::fresh, (x, v) -> x.law(v, MIN, MAX, MIN, MAX));
    }

    private static void lawTakesAnyNumbers() {
        for (int v : new int[] {MIN, -1, 0, MAX}) {
            Edge.onlyLooks("law(0) of " + v, Whole::some, x -> x.law(0, v, v, v, v));
            Edge.onlyLooks("law(1) of " + v, Whole::some, x -> x.law(1, v, v, v, v));
        }
    }
}
