import java.util.function.Supplier;

/** Promises 36 to 41: each sentence that names an edge, one function for each. */
public final class EdgesOfImagesTest {
    private static final int MIN = Integer.MIN_VALUE;
    private static final int MAX = Integer.MAX_VALUE;

    public static void main(String[] args) {
        imageCountsHowOften();
        imageChangesNothingElse();
        imageIsInPlaceOfOneAhead();
        restoreWithoutAnImageIsNone();
        restoreAnswersNow();
        restoreOfAnEmptyOneEmptiesAll();
        restoreOfAFullOneFillsAll();
        restoreLeavesNothingOfWhatCameSince();
        restoreKeepsTheImage();
        restoreLeavesSheetsTraceAndTold();
        restoreBringsTheLawsWithoutATextBack();
        tellTakesTwenty();
        tellTakesAnyNumber();
        checkTakesZeroTo200();
        checkThatIsRefusedLetsNoneWait();
        checkOfNone();
        checkOfTooFew();
        checkOfTooMany();
        checkOfTheFirstThatIsNotSo();
        checkLetsNoneWait();
        checkIsOfPlacesAhead();
        countTakesNineThings();
        countOfFullRows();
        countOfThoseUnderWay();
        toldTakesFiveErrors();
        toldCountsItsOwnErrors();
        toldCountsEachActOnce();
        toldOnlyLooks();
        Due.end();
    }

    private static void imageCountsHowOften() {
        GorgeWire x = new GorgeWire();
        for (int i = 1; i <= 20; i++) {
            Due.is("image()", x.image(), i);
            x.restore();
        }
        Edge.taken("of one with an IMAGE", 2, Whole::some, GorgeWire::image);
    }

    private static void imageChangesNothingElse() {
        GorgeWire x = Whole.some();
        x.image();
        Due.is("as ahead of it", outward(x), outward(Whole.some()));
    }

    /** A number for what can be seen without a change: RIDES and counts. */
    private static long outward(GorgeWire x) {
        long sum = 17;
        for (int what = 0; what <= 8; what++) {
            sum = 31 * sum + x.count(what);
        }
        for (int ride = 0; ride < x.count(1); ride++) {
            for (int what = 0; what <= 8; what++) {
                sum = 31 * sum + x.ofRide(ride, what);
            }
        }
        return sum;
    }

    private static void imageIsInPlaceOfOneAhead() {
        GorgeWire x = new GorgeWire();
        x.line(1, 1);
        x.image();
        x.ticks(7);
        x.line(1, 1);
        x.image();
        x.ticks(9);
        Due.is("the latest", x.restore(), 7);
        Due.is("LINES of the latest", x.count(3), 2);
    }

    private static void restoreWithoutAnImageIsNone() {
        Edge.refused("restore()", Due.NONE, Whole::fresh, GorgeWire::restore);
        Edge.refused("restore()", Due.NONE, () -> {
            GorgeWire x = new GorgeWire();
            x.ticks(9);
            x.ride(2, 9, 9);
            x.tell(0);
            x.line(9, 9);
            x.load(9, 1);
            return x;
        }, GorgeWire::restore);
    }

    private static void restoreAnswersNow() {
        GorgeWire x = new GorgeWire();
        x.image();
        x.ticks(200);
        Due.is("0", x.restore(), 0);
        Due.is("NOW", x.count(0), 0);
        x.ticks(3);
        x.image();
        Due.is("3, with nothing changed", x.restore(), 3);
        GorgeWire last = new GorgeWire();
        for (int i = 0; i < 499; i++) {
            last.ticks(200);
        }
        last.ticks(199);
        last.image();
        Due.is("the last TICK", last.restore(), 99999);
    }

    private static void restoreOfAnEmptyOneEmptiesAll() {
        GorgeWire x = new GorgeWire();
        x.image();
        for (int i = 0; i < 8; i++) {
            x.ride(2, 9, 99);
            x.line(9, 9);
        }
        for (int i = 0; i < 5; i++) {
            x.load(9, 1);
        }
        x.tell(0);
        x.feed('1', 1);
        x.seed(9);
        x.ticks(20);
        x.restore();
        for (int what = 0; what <= 7; what++) {
            Due.is("count(" + what + ")", x.count(what), 0);
        }
        Due.is("z", x.count(8), 1);
        Due.is("no RIDE", x.ofRide(0, 0), Due.BEYOND);
        Due.is("no LINE", x.over(0, 0), Due.BEYOND);
        Due.is("no LOAD", x.order(0), Due.NONE);
        Due.is("an empty TAPE", x.text(0), -10);
        Due.is("none wait", x.check(0), 0);
    }

    private static void restoreOfAFullOneFillsAll() {
        Supplier<GorgeWire> restored = () -> {
            GorgeWire x = Whole.full();
            x.image();
            x.ticks(9);
            x.unload();
            x.text(0);
            x.check(0);
            x.wire(0, 20);
            x.seed(5);
            x.restore();
            return x;
        };
        int[] due = {20, 8, 7, 8, 5, 50, 20, 9, 77};
        GorgeWire x = restored.get();
        for (int what = 0; what <= 8; what++) {
            Due.is("count(" + what + ")", x.count(what), due[what]);
        }
        Due.is("a ninth RIDE", x.ride(0, 1, 0), Due.FULL);
        Due.is("a ninth LINE", x.line(1, 1), Due.FULL);
        Due.is("a sixth LOAD", x.load(1, 0), Due.FULL);
        Due.is("one more byte", x.feed(0, 1), Due.FULL);
        Due.is("one more number", x.tell(0), Due.FULL);
        Edge.same("all is as it was", restored.get(), imaged());
    }

    private static GorgeWire imaged() {
        GorgeWire x = Whole.full();
        x.image();
        return x;
    }

    private static void restoreLeavesNothingOfWhatCameSince() {
        GorgeWire x = new GorgeWire();
        x.wire(0, 20);
        x.line(9, 1);
        x.load(9, 0);
        x.ride(2, 9, 99);
        x.image();
        x.line(9, 9);
        x.load(20, 0);
        x.ride(2, 9, 99);
        x.ticks(20);
        Due.is("the second is in", x.ofRide(1, 5), 1);
        x.restore();
        Due.is("another second LINE", x.line(1, 4), 1);
        Due.is("8 of 9", x.over(1, -1), 2);
        Due.is("another second LOAD", x.load(30, 1), 1);
        Due.is("9, and 30 back", x.order(-1), 39);
        Due.is("another second RIDE", x.ride(3, 8, 7), 1);
        int[] due = {3, 8, 7, 0, 0, 0, 0};
        for (int what = 0; what < due.length; what++) {
            Due.is("ofRide(1, " + what + ")", x.ofRide(1, what), due[what]);
        }
    }

    private static void restoreKeepsTheImage() {
        GorgeWire x = Whole.some();
        x.restore();
        GorgeWire once = Whole.some();
        once.restore();
        x.ticks(50);
        x.start(0, 9, 9);
        x.ride(6, 1, 1);
        x.unload();
        x.line(1, 1);
        x.tell(9);
        x.feed('9', 1);
        x.wire(0, 20);
        x.restore();
        Edge.same("restored twice", x, once);
    }

    private static void restoreLeavesSheetsTraceAndTold() {
        GorgeWire x = new GorgeWire();
        x.ride(0, 1, 0);
        x.sheet(0, 8, 2);
        x.voice(0, 0, 0);
        x.count(99);
        x.image();
        x.sheet(0, 0, 0);
        x.sheet(1, 16, 40);
        x.voice(0, 3, 0);
        x.count(99);
        x.restore();
        Due.is("a SHEET is missing still", x.put(0, 0, 0), Due.NONE);
        Due.is("a SHEET is there still", x.put(1, 39, 0), 1);
        Due.is("THE TRACE", x.count(7), 4);
        Due.is("told(1)", x.told(1), 2);
        Due.is("told(2)", x.told(2), 1);
        Due.is("how often", x.image(), 2);
    }

    private static void restoreBringsTheLawsWithoutATextBack() {
        GorgeWire x = new GorgeWire();
        x.image();
        Due.text(x, 0, "7");
        Due.text(x, 1, "0");
        Due.is("it doesn't GO", x.ride(0, 1, 0), Due.STATE);
        x.restore();
        Due.is("WEAR", x.law(0, 300, 101, 0, 0), 4);
        Due.is("GOES", x.ride(0, 1, 0), 0);
    }

    private static void tellTakesTwenty() {
        GorgeWire x = new GorgeWire();
        for (int i = 1; i <= 20; i++) {
            Due.is("tell", x.tell(-i), i);
            Due.is("they wait", x.count(6), i);
        }
        Due.is("a 21st", x.tell(5), Due.FULL);
        Due.is("20 wait", x.count(6), 20);
        Edge.refused("a 21st", Due.FULL, Whole::full, y -> y.tell(0));
    }

    private static void tellTakesAnyNumber() {
        for (int v : new int[] {MIN, -1, 0, MAX, Due.LOW, Due.BEYOND, Due.KIND}) {
            Edge.taken("tell(" + v + ")", 6, Whole::some, x -> x.tell(v));
        }
    }

    private static void checkTakesZeroTo200() {
        for (int n : new int[] {0, 200}) {
            GorgeWire x = Whole.some();
            int errors = x.told(1);
            x.check(n);
            Due.is("check(" + n + ") is no ERROR", x.told(1), errors);
        }
        for (int n : new int[] {-1, 201, MIN, MAX}) {
            GorgeWire x = Whole.some();
            int errors = x.told(1);
            Due.is("check(" + n + ")", x.check(n), Due.BEYOND);
            Due.is("told(1)", x.told(1), errors + 1);
        }
    }

    private static void checkThatIsRefusedLetsNoneWait() {
        for (int n : new int[] {-1, 201, MIN, MAX}) {
            GorgeWire x = Whole.full();
            x.check(n);
            Due.is("none wait", x.count(6), 0);
            GorgeWire twin = Whole.full();
            twin.check(0);
            Edge.same("nothing else is changed", x, twin);
        }
    }

    private static void checkOfNone() {
        Edge.taken("no RIDES, no numbers", 0, Whole::fresh, x -> x.check(0));
        Edge.taken("no RIDES, no numbers", 0, Whole::fresh, x -> x.check(200));
        GorgeWire x = new GorgeWire();
        x.tell(0);
        Due.is("no RIDES, a number", x.check(0), 1);
        GorgeWire y = new GorgeWire();
        y.ride(0, 1, 0);
        Due.is("a RIDE, no number", y.check(0), 1);
    }

    private static GorgeWire eightAtZero(int numbers) {
        GorgeWire x = new GorgeWire();
        for (int i = 0; i < 8; i++) {
            x.ride(0, 1, 0);
        }
        for (int i = 0; i < numbers; i++) {
            x.tell(0);
        }
        return x;
    }

    private static void checkOfTooFew() {
        for (int numbers = 0; numbers < 8; numbers++) {
            Due.is(numbers + " of 8", eightAtZero(numbers).check(0), numbers + 1);
        }
        Due.is("8 of 8", eightAtZero(8).check(0), 0);
    }

    private static void checkOfTooMany() {
        Due.is("9 of 8", eightAtZero(9).check(0), 9);
        Due.is("20 of 8", eightAtZero(20).check(0), 9);
    }

    private static void checkOfTheFirstThatIsNotSo() {
        for (int wrong = 0; wrong < 8; wrong++) {
            for (int by : new int[] {-1, 1, MIN, MAX}) {
                GorgeWire x = eightAtZero(0);
                for (int i = 0; i < 8; i++) {
                    x.tell(i < wrong ? 0 : by);
                }
                Due.is("from " + wrong + " on wrong by " + by, x.check(0), wrong + 1);
            }
        }
        GorgeWire x = eightAtZero(3);
        x.tell(5);
        Due.is("a wrong one ahead of missing ones", x.check(0), 4);
    }

    private static void checkLetsNoneWait() {
        for (int numbers : new int[] {0, 7, 8, 9, 20}) {
            GorgeWire x = eightAtZero(numbers);
            x.check(0);
            Due.is("none wait", x.count(6), 0);
            Due.is("there is room for one", x.tell(0), 1);
        }
    }

    private static void checkIsOfPlacesAhead() {
        GorgeWire x = new GorgeWire();
        x.ride(2, 1, 50);
        for (int n : new int[] {0, 1, 5, 200}) {
            int place = x.then(n, 0, 3);
            x.tell(place);
            Due.is("AHEAD by " + n, x.check(n), 0);
            x.tell(place - 1);
            Due.is("AHEAD by " + n + ", one less", x.check(n), 1);
            x.tell(place + 1);
            Due.is("AHEAD by " + n + ", one more", x.check(n), 1);
        }
        Due.is("no TICK went by", x.count(0), 0);
        Due.is("PLACE", x.ofRide(0, 3), 0);
    }

    private static void countTakesNineThings() {
        Edge.ends("count(what)", 0, 8, Whole::some, GorgeWire::count);
        Edge.ends("count(what)", 0, 8, Whole::fresh, GorgeWire::count);
        for (int what = 0; what <= 8; what++) {
            int one = what;
            Edge.onlyLooks("count(" + what + ")", Whole::full, x -> x.count(one));
        }
    }

    private static void countOfFullRows() {
        GorgeWire x = Whole.full();
        int[] due = {20, 8, 7, 8, 5, 50, 20, 9, 77};
        for (int what = 0; what <= 8; what++) {
            Due.is("count(" + what + ")", x.count(what), due[what]);
        }
    }

    private static void countOfThoseUnderWay() {
        GorgeWire x = eightAtZero(0);
        Due.is("all", x.count(2), 8);
        for (int i = 0; i < 8; i++) {
            x.start(i, 3000, 300);
            x.ticks(1);
            Due.is("one fewer", x.count(2), 7 - i);
        }
        x.start(7, 3000, 0);
        Due.is("one again", x.count(2), 1);
        Due.is("RIDES", x.count(1), 8);
    }

    private static void toldTakesFiveErrors() {
        GorgeWire x = Whole.some();
        int[] due = {1, 2, 3, 0, 4};
        for (int k = 1; k <= 5; k++) {
            Due.is("told(" + k + ")", x.told(k), due[k - 1]);
        }
        for (int k : new int[] {MIN, -1, 0, 6, MAX, Due.BEYOND}) {
            Edge.refused("told(" + k + ")", Due.BEYOND, Whole::some, y -> y.told(k));
        }
    }

    private static void toldCountsItsOwnErrors() {
        GorgeWire x = new GorgeWire();
        for (int i = 1; i <= 10; i++) {
            x.told(i % 2 == 0 ? 0 : 6);
            Due.is("counted, too", x.told(1), i);
        }
        for (int k = 2; k <= 5; k++) {
            Due.is("told(" + k + ")", x.told(k), 0);
        }
    }

    private static void toldCountsEachActOnce() {
        GorgeWire x = new GorgeWire();
        // All that could be wrong is: one ERROR, the one that is asked first.
        x.ride(-1, -1, -1);
        x.then(-1, -1, -1);
        x.snug(-1, -1, -1);
        x.move(-1, -1, -1, -1, -1);
        x.start(-1, -1, -999);
        Due.is("told(1)", x.told(1), 5);
        for (int k = 2; k <= 5; k++) {
            Due.is("told(" + k + ")", x.told(k), 0);
        }
    }

    private static void toldOnlyLooks() {
        for (int k = 1; k <= 5; k++) {
            int one = k;
            Edge.onlyLooks("told(" + k + ")", Whole::full, x -> x.told(one));
        }
    }
}
