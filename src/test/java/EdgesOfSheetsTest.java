import java.util.function.Supplier;

/** Terms 4 and promises 33 to 35: each sentence that names an edge, one function for each. */
public final class EdgesOfSheetsTest {
    private static final int MIN = Integer.MIN_VALUE;
    private static final int MAX = Integer.MAX_VALUE;

    public static void main(String[] args) {
        sheetTakesFourSheets();
        sheetTakesFourKindsOfBits();
        sheetTakesZeroToFortyNumbers();
        sheetAsksStateAheadOfBeyondOfN();
        sheetAsksBeyondOfSheetAndBitsFirst();
        sheetOfNoBitsIsMissingWhateverN();
        sheetMadeAnewIsAllZero();
        sheetsAreMissingAtFirst();
        putTakesFourSheets();
        putTakesNumbersThatAre();
        putAsksBeyondThenNoneThenBeyond();
        putToAnEmptyOneIsBeyond();
        putTakesTheLowestBits();
        putChangesOneNumberAlone();
        moveTakesFourSheets();
        moveAsksInItsOrder();
        moveRefusesWhatIsBelowZero();
        moveRefusesWhatDoesNotStandThere();
        moveOfZeroNumbers();
        moveOfAllNumbers();
        moveOfEmptySheets();
        moveOfIntsThatGoRound();
        moveToItselfIsAsTheyAllWere();
        moveLeavesTheOthers();
        Due.end();
    }

    /** SHEETS 0 and 1 of like bits with 5 and 3 numbers; 2 of others with 5; 3 is missing. */
    private static GorgeWire three() {
        GorgeWire x = new GorgeWire();
        x.sheet(0, 16, 5);
        x.sheet(1, 16, 3);
        x.sheet(2, 32, 5);
        return x;
    }

    /** That number i of a SHEET is v (2 to 998): as the STRONG of LINE 0 it can pull v, but not one more. */
    private static void isNumber(String what, GorgeWire x, int sheet, int i, int v) {
        x.move(sheet, i, sheet, 0, 1);
        x.put(sheet, 1, 1);
        Due.is(what + " is a LINE", x.lines(sheet) > 0 ? 1 : 0, 1);
        Due.is(what + " is " + v + " or more", pulls(x, v) ? 1 : 0, 1);
        Due.is(what + " is " + v + " or less", pulls(x, v + 1) ? 1 : 0, 0);
    }

    /** Whether LINE 0 itself pulls a new LINE of a THICK that makes just this pull at some SPAN. */
    private static boolean pulls(GorgeWire x, int pull) {
        for (int thick = 1; thick <= 999; thick++) {
            int span = (10 * pull + thick - 1) / thick;
            if (span >= 20 && span <= 400 && thick * span / 10 == pull) {
                x.wire(0, span);
                return x.over(x.line(1, thick), -1) == 2;
            }
        }
        throw new IllegalArgumentException("no such pull: " + pull);
    }

    private static void sheetTakesFourSheets() {
        Edge.ends("sheet(sheet, 8, 1)", 0, 3, Whole::some, (x, v) -> x.sheet(v, 8, 1));
        Edge.ends("sheet(sheet, 0, 1)", 0, 3, Whole::some, (x, v) -> x.sheet(v, 0, 1));
    }

    private static void sheetTakesFourKindsOfBits() {
        for (int bits : new int[] {0, 8, 16, 32}) {
            Edge.taken("sheet(0, " + bits + ", 1)", 1, Whole::some, x -> x.sheet(0, bits, 1));
        }
        for (int bits : new int[] {MIN, -32, -16, -8, -1, 1, 7, 9, 15, 17, 24, 31, 33, 64, MAX}) {
            Edge.refused("sheet(0, " + bits + ", 1)", Due.BEYOND, Whole::some, x -> x.sheet(0, bits, 1));
        }
    }

    private static void sheetTakesZeroToFortyNumbers() {
        int[] errors = {Due.STATE, Due.BEYOND};
        for (int bits : new int[] {8, 16, 32}) {
            Edge.ends("sheet(0, " + bits + ", n)", 0, 40, errors, Whole::some, (x, v) -> x.sheet(0, bits, v));
            GorgeWire x = new GorgeWire();
            x.sheet(0, bits, 40);
            Due.is("the last number", x.put(0, 39, 1), 1);
            Due.is("one behind it", x.put(0, 40, 1), Due.BEYOND);
            x.sheet(0, bits, 0);
            Due.is("no number", x.put(0, 0, 1), Due.BEYOND);
            x.sheet(0, bits, 1);
            Due.is("one number", x.put(0, 0, 1), 1);
            Due.is("no other", x.put(0, 1, 1), Due.BEYOND);
        }
    }

    private static void sheetAsksStateAheadOfBeyondOfN() {
        for (int n : new int[] {-1, -41, MIN}) {
            Edge.refused("sheet(1, 16, " + n + ")", Due.STATE, Whole::some, x -> x.sheet(1, 16, n));
            Edge.refused("sheet(3, 16, " + n + ")", Due.STATE, Whole::some, x -> x.sheet(3, 16, n));
        }
    }

    private static void sheetAsksBeyondOfSheetAndBitsFirst() {
        Edge.refused("sheet(4, 8, -1)", Due.BEYOND, Whole::some, x -> x.sheet(4, 8, -1));
        Edge.refused("sheet(-1, 8, -1)", Due.BEYOND, Whole::some, x -> x.sheet(-1, 8, -1));
        Edge.refused("sheet(4, 0, -1)", Due.BEYOND, Whole::some, x -> x.sheet(4, 0, -1));
        Edge.refused("sheet(0, 9, -1)", Due.BEYOND, Whole::some, x -> x.sheet(0, 9, -1));
    }

    private static void sheetOfNoBitsIsMissingWhateverN() {
        for (int n : new int[] {MIN, -1, 0, 1, 40, 41, MAX}) {
            Edge.taken("sheet(0, 0, " + n + ")", 1, Whole::some, x -> x.sheet(0, 0, n));
            GorgeWire x = Whole.some();
            x.sheet(0, 0, n);
            Due.is("it is missing", x.put(0, 0, 0), Due.NONE);
            Due.is("again", x.sheet(0, 0, n), 1);
        }
    }

    private static void sheetMadeAnewIsAllZero() {
        GorgeWire x = three();
        x.put(0, 0, 5);
        x.put(0, 1, 5);
        Due.is("a LINE", x.lines(0), 1);
        x.sheet(0, 16, 5);
        x.put(0, 0, 5);
        Due.is("THICK is 0 again", x.lines(0), 0);
        x.put(0, 1, 5);
        x.sheet(0, 16, 5);
        x.put(0, 1, 5);
        Due.is("STRONG is 0 again", x.lines(0), 0);
        x.sheet(2, 8, 40);
        for (int i = 0; i < 40; i++) {
            x.put(2, i, 1);
        }
        x.sheet(2, 8, 0);
        x.sheet(2, 8, 40);
        x.put(2, 0, 1);
        x.move(2, 38, 2, 1, 1);
        Due.is("so is the last but one", x.lines(2), 0);
        x.move(2, 39, 2, 1, 1);
        Due.is("so is the last", x.lines(2), 0);
    }

    private static void sheetsAreMissingAtFirst() {
        for (int sheet = 0; sheet < 4; sheet++) {
            int one = sheet;
            Edge.refused("put(" + sheet + ", 0, 0)", Due.NONE, Whole::fresh, x -> x.put(one, 0, 0));
            Edge.refused("move(" + sheet + ", ..)", Due.NONE, Whole::fresh, x -> x.move(one, 0, one, 0, 0));
        }
    }

    private static void putTakesFourSheets() {
        Edge.ends("put(sheet, 0, 9)", 0, 3, () -> {
            GorgeWire x = Whole.some();
            x.sheet(3, 8, 1);
            return x;
        }, (x, v) -> x.put(v, 0, 9));
    }

    private static void putTakesNumbersThatAre() {
        Edge.ends("put(0, i, 9)", 0, 9, Whole::some, (x, v) -> x.put(0, v, 9));
        Edge.ends("put(1, i, 9)", 0, 6, Whole::some, (x, v) -> x.put(1, v, 9));
    }

    private static void putAsksBeyondThenNoneThenBeyond() {
        Edge.refused("put(4, 99, 0)", Due.BEYOND, Whole::fresh, x -> x.put(4, 99, 0));
        Edge.refused("put(4, 0, 0)", Due.BEYOND, Whole::fresh, x -> x.put(4, 0, 0));
        Edge.refused("put(3, 99, 0)", Due.NONE, Whole::some, x -> x.put(3, 99, 0));
        Edge.refused("put(3, -1, 0)", Due.NONE, Whole::some, x -> x.put(3, -1, 0));
        Edge.refused("put(0, 99, 0)", Due.BEYOND, Whole::some, x -> x.put(0, 99, 0));
    }

    private static void putToAnEmptyOneIsBeyond() {
        for (int i : new int[] {MIN, -1, 0, 1, MAX}) {
            Edge.refused("put(2, " + i + ", 5)", Due.BEYOND, Whole::some, x -> x.put(2, i, 5));
        }
    }

    /** A number as its bits tell it: 1 if it makes a LINE (1 to 9999), else 0. */
    private static void isLine(int bits, int v, int due) {
        GorgeWire x = new GorgeWire();
        x.sheet(0, bits, 2);
        Due.is("put", x.put(0, 0, v), 1);
        x.put(0, 1, 1);
        Due.is(v + " in " + bits + " bits", x.lines(0), due);
    }

    private static void putTakesTheLowestBits() {
        int[][] bitsNumberLine = {{8, 0, 0}, {8, 127, 1}, {8, 128, 0}, {8, 255, 0}, {8, 256, 0}, {8, 257, 1},
            {8, -128, 0}, {8, -129, 1}, {8, -255, 1}, {8, -256, 0}, {8, MAX, 0}, {8, MIN, 0}, {8, MIN + 127, 1},
            {16, 128, 1}, {16, 9999, 1}, {16, 10000, 0}, {16, 32767, 0}, {16, 32769, 0}, {16, 65535, 0}, {16, 65536, 0},
            {16, 65537, 1}, {16, 75535, 1}, {16, 75536, 0}, {16, -65535, 1}, {16, -32769, 0}, {16, MAX, 0},
            {16, MIN + 1, 1}, {32, 65537, 0}, {32, 9999, 1}, {32, 1, 1}, {32, -1, 0}, {32, MAX, 0}, {32, MIN, 0},
            {32, MIN + 1, 0}};
        for (int[] b : bitsNumberLine) {
            isLine(b[0], b[1], b[2]);
        }
        int[][] bitsNumberThat = {{8, 127, 127}, {8, -129, 127}, {8, 256 + 44, 44}, {8, -156, 100}, {8, MIN + 2, 2},
            {16, 128, 128}, {16, 65536 + 300, 300}, {16, -65536 + 900, 900}, {32, 999, 999}, {32, 19, 19}};
        for (int[] b : bitsNumberThat) {
            GorgeWire x = new GorgeWire();
            x.sheet(0, b[0], 2);
            x.put(0, 0, b[1]);
            isNumber(b[1] + " in " + b[0] + " bits", x, 0, 0, b[2]);
        }
    }

    private static void putChangesOneNumberAlone() {
        for (int i = 0; i < 10; i++) {
            GorgeWire x = new GorgeWire();
            x.sheet(0, 8, 10);
            for (int k = 0; k < 10; k++) {
                x.put(0, k, 30 + k);
            }
            x.put(0, 4, 99);
            isNumber("number " + i, x, 0, i, i == 4 ? 99 : 30 + i);
        }
    }

    private static void moveTakesFourSheets() {
        Supplier<GorgeWire> all = () -> {
            GorgeWire x = Whole.some();
            for (int sheet = 0; sheet < 4; sheet++) {
                x.sheet(sheet, 8, 2);
            }
            return x;
        };
        Edge.ends("move(sheet, 0, 1, 0, 2)", 0, 3, all, (x, v) -> x.move(v, 0, 1, 0, 2));
        Edge.ends("move(1, 0, other, 0, 2)", 0, 3, all, (x, v) -> x.move(1, 0, v, 0, 2));
    }

    private static void moveAsksInItsOrder() {
        Edge.refused("no such SHEET, one missing", Due.BEYOND, Whole::some, x -> x.move(3, -1, 4, -1, -1));
        Edge.refused("no such SHEET, one missing", Due.BEYOND, Whole::some, x -> x.move(-1, -1, 3, -1, -1));
        Edge.refused("the first is missing", Due.NONE, Whole::some, x -> x.move(3, -1, 0, -1, -1));
        Edge.refused("the other is missing", Due.NONE, Whole::some, x -> x.move(0, -1, 3, -1, -1));
        Edge.refused("both are missing", Due.NONE, Whole::fresh, x -> x.move(0, 0, 1, 0, 0));
        Edge.refused("unlike bits", Due.KIND, Whole::some, x -> x.move(0, -1, 1, -1, -1));
        Edge.refused("unlike bits with n 0", Due.KIND, Whole::some, x -> x.move(1, 0, 0, 0, 0));
        Edge.refused("unlike bits 16, 32", Due.KIND, EdgesOfSheetsTest::three, x -> x.move(0, 0, 2, 0, 1));
        Edge.refused("n below 0", Due.BEYOND, Whole::some, x -> x.move(1, 0, 2, 0, -1));
    }

    private static void moveRefusesWhatIsBelowZero() {
        int[][] wrong = {{0, 0, -1}, {0, 0, MIN}, {-1, 0, 0}, {MIN, 0, 0}, {0, -1, 0}, {0, MIN, 0}, {-1, 0, 1}, {0, -1, 1},
            {-1, -1, -1}, {1, 1, -1}};
        refuseMoves(wrong);
    }

    private static void moveRefusesWhatDoesNotStandThere() {
        int[][] wrong = {{0, 0, 4}, {0, 0, 6}, {5, 0, 1}, {4, 0, 2}, {3, 0, 3}, {0, 3, 1}, {0, 2, 2}, {0, 1, 3},
            {2, 1, 3}, {0, 0, MAX}};
        refuseMoves(wrong);
        Due.is("all that stands there", three().move(0, 2, 1, 0, 3), 3);
        Due.is("the last to the last", three().move(0, 4, 1, 2, 1), 1);
    }

    private static void refuseMoves(int[][] wrong) {
        for (int[] w : wrong) {
            Edge.refused("move(0, " + w[0] + ", 1, " + w[1] + ", " + w[2] + ")", Due.BEYOND, EdgesOfSheetsTest::three,
                    x -> x.move(0, w[0], 1, w[1], w[2]));
        }
    }

    private static void moveOfZeroNumbers() {
        Edge.taken("from the first to the first", 0, EdgesOfSheetsTest::three, x -> x.move(0, 0, 1, 0, 0));
        Edge.taken("from behind the last to behind the last", 0, EdgesOfSheetsTest::three, x -> x.move(0, 5, 1, 3, 0));
        Edge.onlyLooks("none", Whole::some, x -> x.move(1, 3, 1, 0, 0));
        refuseMoves(new int[][] {{6, 0, 0}, {0, 4, 0}, {MAX, 0, 0}, {0, MAX, 0}});
    }

    private static void moveOfAllNumbers() {
        Edge.taken("all of it to itself", 5, EdgesOfSheetsTest::three, x -> x.move(0, 0, 0, 0, 5));
        Edge.onlyLooks("all of it to itself", Whole::some, x -> x.move(0, 0, 0, 0, 10));
        GorgeWire x = new GorgeWire();
        x.sheet(0, 32, 40);
        x.sheet(1, 32, 40);
        x.put(0, 39, 500);
        Due.is("40", x.move(0, 0, 1, 0, 40), 40);
        Due.is("41", x.move(0, 0, 1, 0, 41), Due.BEYOND);
        isNumber("the last came", x, 1, 39, 500);
    }

    private static void moveOfEmptySheets() {
        Supplier<GorgeWire> empty = () -> {
            GorgeWire x = new GorgeWire();
            x.sheet(0, 8, 0);
            x.sheet(1, 8, 0);
            return x;
        };
        Edge.taken("none of none", 0, empty, x -> x.move(0, 0, 1, 0, 0));
        Edge.refused("one of none", Due.BEYOND, empty, x -> x.move(0, 0, 1, 0, 1));
        Edge.refused("none behind", Due.BEYOND, empty, x -> x.move(0, 1, 1, 0, 0));
        Edge.refused("none to behind", Due.BEYOND, empty, x -> x.move(0, 0, 1, 1, 0));
    }

    private static void moveOfIntsThatGoRound() {
        refuseMoves(new int[][] {{MAX, 0, 1}, {0, MAX, 1}, {1, 0, MAX}, {0, 1, MAX}, {MAX, MAX, MAX}, {MAX, MAX, 2},
            {MIN, MIN, MIN}, {MIN, 0, MIN}, {0, MIN, MIN}, {MIN, 0, MAX}, {MAX - 3, 0, 5}, {0, MAX - 1, 3}});
    }

    /** A SHEET of 2, 3, 4, .. 9, some of which came to itself. */
    private static void movedWithin(int i, int j, int n) {
        for (int k = 0; k < 8; k++) {
            GorgeWire x = new GorgeWire();
            x.sheet(0, 8, 8);
            for (int p = 0; p < 8; p++) {
                x.put(0, p, p + 2);
            }
            Due.is("move", x.move(0, i, 0, j, n), n);
            boolean came = k >= j && k < j + n;
            isNumber("number " + k + " of " + i + ", " + j + ", " + n, x, 0, k, came ? k - j + i + 2 : k + 2);
        }
    }

    private static void moveToItselfIsAsTheyAllWere() {
        movedWithin(0, 1, 7);
        movedWithin(1, 0, 7);
        movedWithin(0, 3, 5);
        movedWithin(3, 0, 5);
        movedWithin(2, 4, 3);
        movedWithin(5, 5, 3);
        movedWithin(0, 4, 4);
    }

    private static GorgeWire fourMoved() {
        GorgeWire x = new GorgeWire();
        x.sheet(0, 16, 8);
        x.sheet(1, 16, 8);
        for (int p = 0; p < 8; p++) {
            x.put(0, p, 30 + p);
            x.put(1, p, 50 + p);
        }
        Due.is("move", x.move(0, 1, 1, 3, 4), 4);
        return x;
    }

    private static void moveLeavesTheOthers() {
        for (int k = 0; k < 8; k++) {
            isNumber("number " + k + " of the one they came from", fourMoved(), 0, k, 30 + k);
            boolean came = k >= 3 && k < 7;
            isNumber("number " + k + " of the other", fourMoved(), 1, k, came ? 30 + k - 2 : 50 + k);
        }
    }
}
