/** Terms 3 (LINES, LOADS, BRIDGE) and promises 23 to 29: each sentence that names an edge, one function for each. */
public final class EdgesOfLinesTest {
    private static final int MIN = Integer.MIN_VALUE;
    private static final int MAX = Integer.MAX_VALUE;

    public static void main(String[] args) {
        lineTakesStrongAndThick();
        lineAnswersNumbersUpToSeven();
        lineAsksBeyondThenFull();
        linesTakesFourSheets();
        linesOfAMissingSheetIsNone();
        linesAsksBeyondThenNone();
        linesOfAnEmptySheetAreNone();
        linesStopAtOneThatIsNotWhole();
        linesStopAtTheFirstThatIsNotAsTold();
        linesTakeBothEndsOfEach();
        linesAreTwosFromNumberZeroOn();
        linesStopWhereThereIsNoRoom();
        linesLeaveTheSheetAsItIs();
        overTakesLinesThatAre();
        overTakesMinusOneAndMore();
        overAsksBeyondThenNone();
        overOfLineZeroIsItself();
        overIsNoneBehindTheRow();
        overIsNoneIfItCannotBe();
        aLinePullsWhatIsJustItsStrength();
        aPullIsCut();
        theGreatestPullIsReckonedWithoutLoss();
        theLongestRowIsOfAllLines();
        theFirstOfSeveralRows();
        loadTakesTimesAndSides();
        loadAnswersNumbersUpToFour();
        loadAsksBeyondThenFull();
        unloadOfNoneAndOfAll();
        orderTakesMinusOneAndMore();
        orderOfNone();
        orderIsNoneBehindTheLast();
        orderOfAsManyAsMayBe();
        orderWithNothingFirst();
        theFirstOfSeveralOrders();
        bridgeTakesCoins();
        bridgeIsTheLeastThatIsEnough();
        Due.end();
    }

    private static void lineTakesStrongAndThick() {
        Edge.ends("line(strong, 5)", 1, 9999, Whole::some, (x, v) -> x.line(v, 5));
        Edge.ends("line(5, thick)", 1, 999, Whole::some, (x, v) -> x.line(5, v));
    }

    private static void lineAnswersNumbersUpToSeven() {
        GorgeWire x = new GorgeWire();
        for (int i = 0; i < 8; i++) {
            Due.is("the LINE " + i, x.line(100, 1), i);
            Due.is("LINES", x.count(3), i + 1);
        }
        Due.is("a ninth", x.line(1, 1), Due.FULL);
        Due.is("LINES", x.count(3), 8);
        Edge.refused("a ninth LINE", Due.FULL, Whole::full, y -> y.line(9999, 1));
    }

    private static void lineAsksBeyondThenFull() {
        Edge.refused("STRONG 0", Due.BEYOND, Whole::full, x -> x.line(0, 1));
        Edge.refused("STRONG 10000", Due.BEYOND, Whole::full, x -> x.line(10000, 1));
        Edge.refused("THICK 0", Due.BEYOND, Whole::full, x -> x.line(1, 0));
        Edge.refused("THICK 1000", Due.BEYOND, Whole::full, x -> x.line(1, 1000));
    }

    private static GorgeWire withSheet(int bits, int... numbers) {
        GorgeWire x = new GorgeWire();
        x.sheet(2, bits, numbers.length);
        for (int i = 0; i < numbers.length; i++) {
            x.put(2, i, numbers[i]);
        }
        return x;
    }

    private static void linesTakesFourSheets() {
        Edge.ends("lines(sheet)", 0, 3, () -> {
            GorgeWire x = Whole.some();
            x.sheet(3, 8, 2);
            return x;
        }, GorgeWire::lines);
    }

    private static void linesOfAMissingSheetIsNone() {
        for (int sheet = 0; sheet < 4; sheet++) {
            int one = sheet;
            Edge.refused("lines(" + sheet + ") of a missing one", Due.NONE, Whole::fresh, x -> x.lines(one));
        }
        Edge.refused("one made missing", Due.NONE, () -> {
            GorgeWire x = Whole.some();
            x.sheet(0, 0, 0);
            return x;
        }, x -> x.lines(0));
    }

    private static void linesAsksBeyondThenNone() {
        // All are missing: that there is no such SHEET is asked first.
        Edge.refused("lines(4)", Due.BEYOND, Whole::fresh, x -> x.lines(4));
        Edge.refused("lines(-1)", Due.BEYOND, Whole::fresh, x -> x.lines(-1));
    }

    private static void linesOfAnEmptySheetAreNone() {
        Edge.taken("lines of none", 0, () -> withSheet(8), x -> x.lines(2));
        Edge.onlyLooks("lines of none", Whole::some, x -> x.lines(2));
    }

    private static void linesStopAtOneThatIsNotWhole() {
        Edge.taken("one number", 0, () -> withSheet(16, 5), x -> x.lines(2));
        Edge.taken("two", 1, () -> withSheet(16, 5, 5), x -> x.lines(2));
        Edge.taken("three", 1, () -> withSheet(16, 5, 5, 5), x -> x.lines(2));
        Edge.taken("four", 2, () -> withSheet(16, 5, 5, 5, 5), x -> x.lines(2));
    }

    private static void linesStopAtTheFirstThatIsNotAsTold() {
        int[][] wrong = {{0, 5}, {10000, 5}, {5, 0}, {5, 1000}, {-1, 5}, {5, -1}, {MIN, 5}, {5, MIN}, {MAX, 5}, {5, MAX}};
        for (int[] w : wrong) {
            Edge.taken("the first of two", 0, () -> withSheet(32, w[0], w[1], 5, 5), x -> x.lines(2));
            Edge.taken("the second of three", 1, () -> withSheet(32, 5, 5, w[0], w[1], 5, 5), x -> x.lines(2));
            GorgeWire x = withSheet(32, 5, 5, w[0], w[1], 5, 5);
            x.lines(2);
            Due.is("LINES", x.count(3), 1);
        }
    }

    private static void linesTakeBothEndsOfEach() {
        Edge.taken("the least and the greatest", 4, () -> withSheet(32, 1, 1, 9999, 999, 1, 999, 9999, 1),
                x -> x.lines(2));
        Edge.taken("the greatest of 8 bits", 1, () -> withSheet(8, 127, 127), x -> x.lines(2));
        Edge.taken("one more is below 0", 0, () -> withSheet(8, 128, 127), x -> x.lines(2));
    }

    private static void linesAreTwosFromNumberZeroOn() {
        GorgeWire x = withSheet(8, 4, 1, 6, 2, 8, 3, 10, 4, 12, 5, 14, 6, 16, 7, 1, 8);
        x.wire(0, 20);
        Due.is("eight", x.lines(2), 8);
        // Each can pull just the next one, and the last none.
        for (int line = 0; line < 8; line++) {
            Due.is("over(" + line + ", -1)", x.over(line, -1), line + 1);
        }
        x = withSheet(8, 99, 1, 3, 49, 1, 2);
        x.wire(0, 20);
        Due.is("three", x.lines(2), 3);
        Due.is("98 of 99", x.over(1, -1), 2);
        Due.is("4 of 99", x.over(2, -1), 2);
        x = withSheet(8, 3, 1, 99, 1, 98, 2);
        x.wire(0, 20);
        Due.is("three", x.lines(2), 3);
        Due.is("by the second alone", x.over(2, 1), 1);
    }

    private static GorgeWire withLines(int n) {
        GorgeWire x = withSheet(16, 5, 5, 6, 6, 7, 7, 8, 8, 9, 9, 10, 10, 11, 11, 12, 12, 13, 13);
        for (int i = 0; i < n; i++) {
            x.line(1, 1);
        }
        return x;
    }

    private static void linesStopWhereThereIsNoRoom() {
        for (int n = 0; n <= 8; n++) {
            int one = n;
            Edge.taken("nine to " + n, 8 - n, () -> withLines(one), x -> x.lines(2));
            GorgeWire x = withLines(n);
            x.lines(2);
            Due.is("LINES", x.count(3), 8);
            Due.is("again", x.lines(2), 0);
            Due.is("it is no ERROR", x.told(4), 0);
        }
        GorgeWire longest = new GorgeWire();
        longest.sheet(0, 8, 40);
        for (int i = 0; i < 40; i++) {
            longest.put(0, i, 1);
        }
        Due.is("of a full SHEET", longest.lines(0), 8);
    }

    private static void linesLeaveTheSheetAsItIs() {
        GorgeWire x = withSheet(16, 5, 5, 6, 6);
        Due.is("two", x.lines(2), 2);
        Due.is("two more", x.lines(2), 2);
        Due.is("LINES", x.count(3), 4);
    }

    /** LINES by twos (STRONG, THICK) over a SPAN. */
    private static GorgeWire span(int span, int... twos) {
        GorgeWire x = new GorgeWire();
        x.wire(0, span);
        for (int i = 0; i + 1 < twos.length; i += 2) {
            x.line(twos[i], twos[i + 1]);
        }
        return x;
    }

    private static void overTakesLinesThatAre() {
        Edge.refused("over(0, -1) of none", Due.BEYOND, Whole::fresh, x -> x.over(0, -1));
        Edge.refused("over(-1, -1) of none", Due.BEYOND, Whole::fresh, x -> x.over(-1, -1));
        Edge.ends("over(line, -1)", 0, 2, Whole::some, (x, v) -> x.over(v, -1));
        Edge.ends("over(line, -1)", 0, 7, () -> span(20, 99, 1, 99, 1, 99, 1, 99, 1, 99, 1, 99, 1, 99, 1, 99, 1),
                (x, v) -> x.over(v, -1));
    }

    private static void overTakesMinusOneAndMore() {
        Edge.taken("over(2, -1)", 3, Whole::some, x -> x.over(2, -1));
        Edge.refused("over(2, -2)", Due.BEYOND, Whole::some, x -> x.over(2, -2));
        Edge.refused("over(2, MIN)", Due.BEYOND, Whole::some, x -> x.over(2, MIN));
        Edge.onlyLooks("over(2, 2)", Whole::some, x -> x.over(2, 2));
    }

    private static void overAsksBeyondThenNone() {
        GorgeWire x = span(20, 1, 1, 1, 1);
        Due.is("it can't be", x.over(1, -1), Due.NONE);
        Due.is("i below -1, too", x.over(1, -2), Due.BEYOND);
        Due.is("no such LINE, i too great", x.over(2, 99), Due.BEYOND);
    }

    private static void overOfLineZeroIsItself() {
        Edge.taken("how many", 1, () -> span(400, 1, 999), x -> x.over(0, -1));
        Edge.taken("its ROW", 0, () -> span(400, 1, 999), x -> x.over(0, 0));
        Edge.refused("behind its ROW", Due.NONE, () -> span(400, 1, 999), x -> x.over(0, 1));
    }

    private static void overIsNoneBehindTheRow() {
        Edge.taken("the last of the ROW", 2, Whole::some, x -> x.over(2, 2));
        Edge.refused("behind it", Due.NONE, Whole::some, x -> x.over(2, 3));
        Edge.refused("far behind it", Due.NONE, Whole::some, x -> x.over(2, MAX));
    }

    private static void overIsNoneIfItCannotBe() {
        for (int i : new int[] {-1, 0, 1, MAX}) {
            Edge.refused("over(1, " + i + ")", Due.NONE, () -> span(20, 3, 1, 9, 2), x -> x.over(1, i));
        }
    }

    private static void aLinePullsWhatIsJustItsStrength() {
        Due.is("4 of 4", span(20, 4, 1, 1, 2).over(1, -1), 2);
        Due.is("4 of 3", span(20, 3, 1, 1, 2).over(1, -1), Due.NONE);
        Due.is("999 * 400 by 10 of 9999", span(400, 9999, 1, 1, 999).over(1, -1), Due.NONE);
        Due.is("249 * 400 by 10 of 9960", span(400, 9960, 1, 1, 249).over(1, -1), 2);
        Due.is("249 * 400 by 10 of 9959", span(400, 9959, 1, 1, 249).over(1, -1), Due.NONE);
        Due.is("1 * 20 by 10 of 1", span(20, 1, 1, 1, 1).over(1, -1), Due.NONE);
        Due.is("1 * 20 by 10 of 2", span(20, 2, 1, 1, 1).over(1, -1), 2);
    }

    private static void aPullIsCut() {
        Due.is("2.9 of 2", span(29, 2, 1, 1, 1).over(1, -1), 2);
        Due.is("3.0 of 2", span(30, 2, 1, 1, 1).over(1, -1), Due.NONE);
    }

    private static void theGreatestPullIsReckonedWithoutLoss() {
        Due.is("39960 of 9999", span(400, 9999, 999, 9999, 999).over(1, -1), Due.NONE);
        Due.is("1998 of 1998", span(20, 1998, 999, 9999, 999).over(1, -1), 2);
    }

    private static void theLongestRowIsOfAllLines() {
        GorgeWire x = span(20, 4, 1, 6, 2, 8, 3, 10, 4, 12, 5, 14, 6, 16, 7, 18, 8);
        Due.is("how many", x.over(7, -1), 8);
        for (int i = 0; i < 8; i++) {
            Due.is("the LINE " + i, x.over(7, i), i);
        }
        Due.is("behind the last", x.over(7, 8), Due.NONE);
    }

    private static void theFirstOfSeveralRows() {
        // From 0 by 1 or 2, then by 3 or 4, to 5; 1 can't pull 3, only 4.
        GorgeWire x = span(20, 4, 9, 6, 2, 8, 2, 10, 4, 10, 3, 1, 5);
        Due.is("how many", x.over(5, -1), 4);
        int[] row = {0, 1, 4, 5};
        for (int i = 0; i < row.length; i++) {
            Due.is("the LINE " + i, x.over(5, i), row[i]);
        }
    }

    private static void loadTakesTimesAndSides() {
        Edge.ends("load(time, 1)", 1, 99, Whole::some, (x, v) -> x.load(v, 1));
        Edge.ends("load(5, side)", 0, 1, Whole::some, (x, v) -> x.load(5, v));
    }

    private static void loadAnswersNumbersUpToFour() {
        GorgeWire x = new GorgeWire();
        for (int i = 0; i < 5; i++) {
            Due.is("the LOAD " + i, x.load(1, i & 1), i);
            Due.is("LOADS", x.count(4), i + 1);
        }
        Due.is("a sixth", x.load(1, 0), Due.FULL);
        Due.is("LOADS", x.count(4), 5);
        Edge.refused("a sixth LOAD", Due.FULL, Whole::full, y -> y.load(99, 1));
    }

    private static void loadAsksBeyondThenFull() {
        Edge.refused("TIME 0", Due.BEYOND, Whole::full, x -> x.load(0, 0));
        Edge.refused("TIME 100", Due.BEYOND, Whole::full, x -> x.load(100, 0));
        Edge.refused("SIDE -1", Due.BEYOND, Whole::full, x -> x.load(1, -1));
        Edge.refused("SIDE 2", Due.BEYOND, Whole::full, x -> x.load(1, 2));
    }

    private static void unloadOfNoneAndOfAll() {
        Edge.taken("of none", 0, Whole::fresh, GorgeWire::unload);
        Edge.taken("of all", 5, Whole::full, GorgeWire::unload);
        GorgeWire x = Whole.full();
        x.unload();
        Due.is("none are left", x.count(4), 0);
        Due.is("nothing is brought", x.order(-1), 0);
        Due.is("again", x.unload(), 0);
        // The first of those that were was there, this one is here.
        Due.is("the first again", x.load(7, 0), 0);
        Due.is("it is on its own SIDE", x.order(-1), 7);
    }

    private static void orderTakesMinusOneAndMore() {
        Edge.ends("order(i)", -1, 2, new int[] {Due.BEYOND, Due.NONE}, Whole::some, GorgeWire::order);
        Edge.onlyLooks("order(-1)", Whole::full, x -> x.order(-1));
        Edge.refused("order(-2) of none", Due.BEYOND, Whole::fresh, x -> x.order(-2));
    }

    private static void orderOfNone() {
        Edge.taken("order(-1)", 0, Whole::fresh, x -> x.order(-1));
        Edge.refused("order(0)", Due.NONE, Whole::fresh, x -> x.order(0));
        Edge.refused("order(MAX)", Due.NONE, Whole::fresh, x -> x.order(MAX));
    }

    private static void orderIsNoneBehindTheLast() {
        Edge.ends("order(i)", -1, 4, new int[] {Due.BEYOND, Due.NONE}, Whole::full, GorgeWire::order);
    }

    private static GorgeWire loads(int... twos) {
        GorgeWire x = new GorgeWire();
        for (int i = 0; i + 1 < twos.length; i += 2) {
            x.load(twos[i], twos[i + 1]);
        }
        return x;
    }

    private static void orderOfAsManyAsMayBe() {
        GorgeWire there = loads(99, 1, 99, 1, 99, 1, 99, 1, 99, 1);
        Due.is("all there: one with nothing ahead of each", there.order(-1), 5 * 104);
        GorgeWire here = loads(99, 0, 99, 0, 99, 0, 99, 0, 99, 0);
        Due.is("all here: one with nothing between two", here.order(-1), 5 * 99 + 4 * 5);
        GorgeWire both = loads(1, 1, 1, 1, 1, 0, 1, 0, 1, 0);
        Due.is("by turns", both.order(-1), 5);
        int[] due = {2, 0, 3, 1, 4};
        for (int i = 0; i < 5; i++) {
            Due.is("order(" + i + ")", both.order(i), due[i]);
        }
    }

    private static void orderWithNothingFirst() {
        Due.is("one here", loads(1, 0).order(-1), 1);
        Due.is("one there", loads(1, 1).order(-1), 6);
        GorgeWire x = loads(9, 1, 9, 0);
        Due.is("here first", x.order(-1), 18);
        Due.is("though it is the second", x.order(0), 1);
        Due.is("THE SHEAVE is here for each", x.order(-1), 18);
    }

    private static void theFirstOfSeveralOrders() {
        GorgeWire x = loads(7, 0, 7, 0, 7, 0);
        for (int i = 0; i < 3; i++) {
            Due.is("order(" + i + ")", x.order(i), i);
        }
        // One with nothing is needed ahead of the first, or between: 0 first, or last, is alike.
        GorgeWire y = loads(7, 1, 8, 1, 9, 0);
        Due.is("what it takes", y.order(-1), 29);
        int[] due = {0, 2, 1};
        for (int i = 0; i < 3; i++) {
            Due.is("order(" + i + ")", y.order(i), due[i]);
        }
    }

    private static void bridgeTakesCoins() {
        Edge.ends("bridge(c, 7)", 1, 9999, Whole::some, (x, v) -> x.bridge(v, 7));
        Edge.ends("bridge(7, k)", 1, 99, Whole::some, (x, v) -> x.bridge(7, v));
        Edge.onlyLooks("bridge(9999, 1)", Whole::some, x -> x.bridge(9999, 1));
    }

    private static void bridgeIsTheLeastThatIsEnough() {
        GorgeWire x = new GorgeWire();
        int[][] coins = {{1, 1, 1}, {1, 99, 1}, {98, 99, 1}, {99, 99, 1}, {100, 99, 2}, {198, 99, 2}, {199, 99, 3},
            {9999, 1, 9999}, {9998, 1, 9998}, {9999, 99, 101}, {9900, 99, 100}, {9901, 99, 101}, {9999, 2, 5000}};
        for (int[] c : coins) {
            Due.is("bridge(" + c[0] + ", " + c[1] + ")", x.bridge(c[0], c[1]), c[2]);
        }
    }
}
