/** Terms 1 (RIDES, GAIN, RUBS) and promises 8 to 11: each sentence that names an edge, one function for each. */
public final class EdgesOfRidesTest {
    private static final int RIDE = 0;
    private static final int ROLLED = 1;
    private static final int HAULED = 2;
    private static final int BRAKED = 3;
    private static final int WINDY = 4;
    private static final int LATE = 5;
    private static final int GREASED = 6;

    public static void main(String[] args) {
        rideTakesTheSevenKinds();
        rideTakesWeights();
        rideTakesNumbersM();
        rideAnswersNumbersUpToSeven();
        rideAsksBeyondThenStateThenFull();
        rideThatDoesNotGoIsRefused();
        rideGoesByAnyNumberButZero();
        rideGoesByItsWeightWithoutAText();
        rideIsAtZeroAndUnderWayAtFirst();
        ofRideTakesRidesThatAre();
        ofRideTakesNineFacts();
        asTakesRidesAndKindsThatAre();
        asAsksBeyondThenKind();
        asIsOfItsKindAndThoseAbove();
        startTakesPlacesOfTheSpan();
        startTakesPaces();
        startTakesRidesThatAre();
        startLetsOneThatIsInGoAgain();
        startAnswersThePlaceThatWas();
        gainIsCutTowardZero();
        gainIsOfTheYardThatThePlaceIsCutTo();
        gainAtTheEndIsThatOfTheLastYard();
        rolledGainsOneMoreAboveZeroWarmth();
        hauledGainsM();
        windyGainsWind();
        brakedIsBrakedAboveM();
        lateIsBrakedFromEightTenths();
        greasedRubsHalfCut();
        spanToldLessMovesWhatWouldBeBeyond();
        spanToldMoreMovesNothing();
        aSpanThatIsRefusedMovesNothing();
        Due.end();
    }

    private static GorgeWire flat(int kind, int m) {
        return Whole.flat(kind, m, 0);
    }

    private static GorgeWire goesNoMore() {
        GorgeWire x = Whole.full();
        // The first text() takes what the full TAPE has, which is no TEXT.
        x.text(1);
        Due.text(x, 1, "w=77");
        return x;
    }

    private static void rideTakesTheSevenKinds() {
        Edge.ends("ride(kind, 5, 5)", 0, 6, Whole::some, (x, v) -> x.ride(v, 5, 5));
        Edge.ends("ride(kind, 5, 5)", 0, 6, Whole::fresh, (x, v) -> x.ride(v, 5, 5));
    }

    private static void rideTakesWeights() {
        Edge.ends("ride(0, weight, 5)", 1, 300, Whole::some, (x, v) -> x.ride(0, v, 5));
        Edge.ends("ride(0, weight, 5)", 1, 300, Whole::fresh, (x, v) -> x.ride(0, v, 5));
    }

    private static void rideTakesNumbersM() {
        Edge.ends("ride(0, 5, m)", 0, 99, Whole::some, (x, v) -> x.ride(0, 5, v));
        Edge.ends("ride(0, 5, m)", 0, 99, Whole::fresh, (x, v) -> x.ride(0, 5, v));
    }

    private static void rideAnswersNumbersUpToSeven() {
        GorgeWire x = new GorgeWire();
        for (int i = 0; i < 8; i++) {
            Due.is("the RIDE " + i, x.ride(i % 7, 10 + i, i), i);
            Due.is("RIDES", x.count(1), i + 1);
        }
        Due.is("a ninth", x.ride(0, 1, 0), Due.FULL);
        Due.is("the first stays", x.ofRide(0, 1), 10);
        Due.is("the last stays", x.ofRide(7, 1), 17);
        Edge.refused("a ninth RIDE", Due.FULL, Whole::full, y -> y.ride(0, 1, 0));
    }

    private static void rideAsksBeyondThenStateThenFull() {
        Edge.refused("FULL alone", Due.FULL, EdgesOfRidesTest::goesNoMore, x -> x.ride(0, 77, 0));
        Edge.refused("STATE ahead of FULL", Due.STATE, EdgesOfRidesTest::goesNoMore, x -> x.ride(0, 78, 0));
        Edge.refused("BEYOND ahead of both: KIND", Due.BEYOND, EdgesOfRidesTest::goesNoMore, x -> x.ride(7, 78, 0));
        Edge.refused("BEYOND ahead of both: WEIGHT", Due.BEYOND, EdgesOfRidesTest::goesNoMore, x -> x.ride(0, 0, 0));
        Edge.refused("BEYOND ahead of both: m", Due.BEYOND, EdgesOfRidesTest::goesNoMore, x -> x.ride(0, 78, 100));
    }

    private static GorgeWire someWithGoes(String text) {
        GorgeWire x = Whole.some();
        x.text(1);
        Due.text(x, 1, text);
        return x;
    }

    private static void rideThatDoesNotGoIsRefused() {
        // Of 300 STRANDS 17 broke as RIDE 1 came in.
        Due.is("STRANDS", Whole.some().strands(0), 283);
        Edge.refused("0", Due.STATE, () -> someWithGoes("0"), x -> x.ride(0, 1, 0));
        Edge.refused("w-50 of 50", Due.STATE, () -> someWithGoes("w-50"), x -> x.ride(0, 50, 0));
        Edge.refused("s-283 of 283", Due.STATE, () -> someWithGoes("s-283"), x -> x.ride(0, 50, 0));
        Edge.refused("v-5 of 5", Due.STATE, () -> someWithGoes("v-5"), x -> x.ride(0, 50, 0));
        Edge.refused("t-20 of 20", Due.STATE, () -> someWithGoes("t-20"), x -> x.ride(0, 50, 0));
        Edge.taken("s-282 of 283", 5, () -> someWithGoes("s-282"), x -> x.ride(0, 50, 0));
        Edge.taken("v-4 of 5", 5, () -> someWithGoes("v-4"), x -> x.ride(0, 50, 0));
        Edge.taken("t-19 of 20", 5, () -> someWithGoes("t-19"), x -> x.ride(0, 50, 0));
    }

    private static void rideGoesByAnyNumberButZero() {
        Edge.taken("below 0", 5, () -> someWithGoes("w-51"), x -> x.ride(0, 50, 0));
        Edge.taken("above 1", 5, () -> someWithGoes("w-48"), x -> x.ride(0, 50, 0));
        Edge.taken("gone round", 5, () -> someWithGoes("9999*9999*9999"), x -> x.ride(0, 50, 0));
        // 65536 * 65536 is 0 as an int.
        Edge.refused("gone round to 0", Due.STATE, () -> someWithGoes("256*256*256*256"), x -> x.ride(0, 50, 0));
    }

    private static GorgeWire strands(int n) {
        GorgeWire x = new GorgeWire();
        x.wire(8, n);
        return x;
    }

    private static void rideGoesByItsWeightWithoutAText() {
        Edge.refused("300 of 300", Due.STATE, () -> strands(60), x -> x.ride(0, 300, 0));
        Edge.taken("305 of 300", 0, () -> strands(61), x -> x.ride(0, 300, 0));
        Edge.refused("5 of 5", Due.STATE, () -> strands(1), x -> x.ride(0, 5, 0));
        Edge.taken("5 of 4", 0, () -> strands(1), x -> x.ride(0, 4, 0));
        Edge.refused("no STRANDS", Due.STATE, () -> strands(0), x -> x.ride(0, 1, 0));
    }

    private static void rideIsAtZeroAndUnderWayAtFirst() {
        GorgeWire x = Whole.some();
        Due.is("a RIDE", x.ride(6, 300, 99), 5);
        int[] due = {6, 300, 99, 0, 0, 0, 0};
        for (int what = 0; what < due.length; what++) {
            Due.is("ofRide(5, " + what + ")", x.ofRide(5, what), due[what]);
        }
    }

    private static void ofRideTakesRidesThatAre() {
        Edge.refused("ofRide(0, 0) of none", Due.BEYOND, Whole::fresh, x -> x.ofRide(0, 0));
        Edge.ends("ofRide(ride, 3)", 0, 4, Whole::some, (x, v) -> x.ofRide(v, 3));
        Edge.ends("ofRide(ride, 3)", 0, 7, Whole::full, (x, v) -> x.ofRide(v, 3));
    }

    private static void ofRideTakesNineFacts() {
        Edge.ends("ofRide(1, what)", 0, 8, Whole::some, (x, v) -> x.ofRide(1, v));
        for (int what = 0; what <= 8; what++) {
            int one = what;
            Edge.onlyLooks("ofRide(1, " + what + ")", Whole::some, x -> x.ofRide(1, one));
        }
    }

    private static void asTakesRidesAndKindsThatAre() {
        Edge.refused("as(0, 0) of none", Due.BEYOND, Whole::fresh, x -> x.as(0, 0));
        Edge.ends("as(ride, 0)", 0, 4, Whole::some, (x, v) -> x.as(v, 0));
        Edge.ends("as(ride, 0)", 0, 7, Whole::full, (x, v) -> x.as(v, 0));
        GorgeWire greased = new GorgeWire();
        greased.ride(GREASED, 9, 0);
        Due.is("the last KIND", greased.as(0, 6), 9);
        Due.is("the first KIND", greased.as(0, 0), 9);
        Edge.refused("as(1, -1)", Due.BEYOND, Whole::some, x -> x.as(1, -1));
        Edge.refused("as(1, 7)", Due.BEYOND, Whole::some, x -> x.as(1, 7));
        Edge.refused("as(1, MIN)", Due.BEYOND, Whole::some, x -> x.as(1, Integer.MIN_VALUE));
        Edge.refused("as(1, MAX)", Due.BEYOND, Whole::some, x -> x.as(1, Integer.MAX_VALUE));
    }

    private static void asAsksBeyondThenKind() {
        Edge.refused("as(0, 6)", Due.KIND, Whole::some, x -> x.as(0, 6));
        Edge.refused("as(5, 6)", Due.BEYOND, Whole::some, x -> x.as(5, 6));
        Edge.refused("as(0, 7)", Due.BEYOND, Whole::some, x -> x.as(0, 7));
    }

    private static void asIsOfItsKindAndThoseAbove() {
        int[][] are = {{RIDE}, {RIDE, ROLLED}, {RIDE, HAULED}, {RIDE, ROLLED, BRAKED}, {RIDE, WINDY},
            {RIDE, ROLLED, BRAKED, LATE}, {RIDE, HAULED, GREASED}};
        for (int kind = 0; kind < 7; kind++) {
            GorgeWire x = new GorgeWire();
            x.ride(kind, 40 + kind, 0);
            for (int other = 0; other < 7; other++) {
                boolean is = false;
                for (int one : are[kind]) {
                    is |= one == other;
                }
                Due.is(kind + " as " + other, x.as(0, other), is ? 40 + kind : Due.KIND);
            }
            Due.is("told(5)", x.told(5), 7 - are[kind].length);
        }
    }

    private static void startTakesPlacesOfTheSpan() {
        Edge.ends("start(0, place, 1)", 0, 2400, Whole::some, (x, v) -> x.start(0, v, 1));
        for (int span : new int[] {20, 400}) {
            Edge.ends("start(0, place, 1) of " + span, 0, 10 * span, () -> {
                GorgeWire x = new GorgeWire();
                x.wire(0, span);
                x.ride(0, 1, 0);
                return x;
            }, (x, v) -> x.start(0, v, 1));
        }
    }

    private static void startTakesPaces() {
        Edge.ends("start(0, 5, pace)", -300, 300, Whole::some, (x, v) -> x.start(0, 5, v));
        GorgeWire x = Whole.some();
        x.start(0, 5, -300);
        Due.is("PACE -300", x.ofRide(0, 4), -300);
        x.start(0, 5, 300);
        Due.is("PACE 300", x.ofRide(0, 4), 300);
    }

    private static void startTakesRidesThatAre() {
        Edge.refused("start(0, 0, 0) of none", Due.BEYOND, Whole::fresh, x -> x.start(0, 0, 0));
        Edge.ends("start(ride, 5, 1)", 0, 4, Whole::some, (x, v) -> x.start(v, 5, 1));
        Edge.ends("start(ride, 5, 1)", 0, 7, Whole::full, (x, v) -> x.start(v, 5, 1));
    }

    private static void startLetsOneThatIsInGoAgain() {
        GorgeWire x = Whole.some();
        Due.is("RIDE 1 is in", x.ofRide(1, 5), 1);
        int came = x.ofRide(1, 6);
        Due.is("it came", came > 0 ? 1 : 0, 1);
        Due.is("at the end", x.start(1, 2400, 0), 2400);
        Due.is("under way, though at the end", x.ofRide(1, 5), 0);
        Due.is("CAME stays", x.ofRide(1, 6), came);
        Due.is("all are under way", x.count(2), 5);
        x = Whole.some();
        Due.is("a refused start", x.start(1, 2401, 0), Due.BEYOND);
        Due.is("it is in still", x.ofRide(1, 5), 1);
    }

    private static void startAnswersThePlaceThatWas() {
        GorgeWire x = flat(RIDE, 0);
        Due.is("0 at first", x.start(0, 3000, 0), 0);
        Due.is("a refused one", x.start(0, 3001, 0), Due.BEYOND);
        Due.is("the end", x.start(0, 17, 0), 3000);
        Due.is("between", x.start(0, 0, 0), 17);
    }

    private static void gainIsCutTowardZero() {
        GorgeWire x = new GorgeWire();
        x.ride(RIDE, 1, 0);
        x.start(0, 2990, 0);
        // STEEP there with 1: -714 or so, which by 50 is -14.3.
        Due.is("below 0", x.ofRide(0, 7), -14);
        x.start(0, 1500, 0);
        int steep = x.steep(150, 1);
        Due.is("STEEP in the middle", steep > 0 && steep < 50 ? 1 : 0, 1);
        Due.is("less than 50 gives 0", x.ofRide(0, 7), 0);
        x.wire(1, -10);
        steep = x.steep(150, 1);
        Due.is("STEEP upward", steep < 0 && steep > -50 ? 1 : 0, 1);
        Due.is("above -50 gives 0", x.ofRide(0, 7), 0);
    }

    private static void gainIsOfTheYardThatThePlaceIsCutTo() {
        GorgeWire x = new GorgeWire();
        x.wire(2, 100);
        x.wire(3, 99);
        x.ride(RIDE, 200, 0);
        for (int place : new int[] {0, 9, 10, 19, 20, 2989, 2990, 2999}) {
            x.start(0, place, 0);
            int yard = place / 10;
            Due.is("at " + place, x.ofRide(0, 7), (x.depth(yard + 1, 200) - x.depth(yard, 200)) / 50);
        }
    }

    private static void gainAtTheEndIsThatOfTheLastYard() {
        GorgeWire x = new GorgeWire();
        x.ride(RIDE, 200, 0);
        x.start(0, 3000, 0);
        Due.is("at the end", x.ofRide(0, 7), (x.depth(300, 200) - x.depth(299, 200)) / 50);
    }

    private static void rolledGainsOneMoreAboveZeroWarmth() {
        for (int kind = 0; kind < 7; kind++) {
            GorgeWire x = flat(kind, 0);
            boolean rolls = kind == ROLLED || kind == BRAKED || kind == LATE;
            for (int warm : new int[] {-40, -1, 0, 1, 40}) {
                x.wire(4, warm);
                Due.is("KIND " + kind + ", WARM " + warm, x.ofRide(0, 7), rolls && warm > 0 ? 1 : 0);
            }
        }
    }

    private static void hauledGainsM() {
        for (int kind = 0; kind < 7; kind++) {
            boolean hauls = kind == HAULED || kind == GREASED;
            Due.is("KIND " + kind + ", m 0", flat(kind, 0).ofRide(0, 7), 0);
            Due.is("KIND " + kind + ", m 99", flat(kind, 99).ofRide(0, 7), hauls ? 99 : 0);
        }
    }

    private static void windyGainsWind() {
        for (int kind = 0; kind < 7; kind++) {
            for (int wind : new int[] {-20, 0, 20}) {
                GorgeWire x = flat(kind, 0);
                x.wire(7, wind);
                Due.is("KIND " + kind + ", WIND " + wind, x.ofRide(0, 7), kind == WINDY ? wind : 0);
            }
        }
    }

    private static void brakedIsBrakedAboveM() {
        GorgeWire x = flat(BRAKED, 30);
        int[][] paceAndGain = {{-300, 0}, {0, 0}, {29, 0}, {30, 0}, {31, 0}, {32, -1}, {33, -1}, {34, -2}, {300, -135}};
        for (int[] p : paceAndGain) {
            x.start(0, 100, p[0]);
            Due.is("m 30, PACE " + p[0], x.ofRide(0, 7), p[1]);
        }
        GorgeWire zero = flat(BRAKED, 0);
        zero.start(0, 100, 2);
        Due.is("m 0, PACE 2", zero.ofRide(0, 7), -1);
        zero.start(0, 100, -2);
        Due.is("m 0, PACE -2", zero.ofRide(0, 7), 0);
        zero.wire(4, 1);
        zero.start(0, 100, 2);
        Due.is("warm, as ROLLED", zero.ofRide(0, 7), 0);
    }

    private static void lateIsBrakedFromEightTenths() {
        for (int span : new int[] {20, 300, 400}) {
            GorgeWire x = flat(LATE, 10);
            x.wire(0, span);
            x.wire(4, 1);
            x.start(0, 8 * span - 1, 20);
            Due.is("ahead of it as ROLLED", x.ofRide(0, 7) - x.steep((8 * span - 1) / 10, 1) / 50, 1);
            x.start(0, 8 * span, 20);
            Due.is("from there as BRAKED", x.ofRide(0, 7) - x.steep(8 * span / 10, 1) / 50, 1 - 5);
            x.start(0, 10 * span, 10);
            Due.is("not above m", x.ofRide(0, 7) - x.steep(span, 1) / 50, 1);
        }
    }

    private static void greasedRubsHalfCut() {
        GorgeWire x = flat(GREASED, 0);
        int[][] rubAndHalf = {{0, 0}, {1, 0}, {2, 1}, {3, 1}, {98, 49}, {99, 49}};
        for (int[] r : rubAndHalf) {
            x.wire(6, r[0]);
            Due.is("RUB " + r[0], x.ofRide(0, 8), r[1]);
        }
        for (int kind = 0; kind < 6; kind++) {
            GorgeWire other = flat(kind, 0);
            other.wire(6, 99);
            Due.is("KIND " + kind, other.ofRide(0, 8), 99);
        }
    }

    private static void spanToldLessMovesWhatWouldBeBeyond() {
        GorgeWire x = new GorgeWire();
        int[] places = {201, 199, 200, 0, 3000};
        int[] due = {200, 199, 200, 0, 200};
        for (int i = 0; i < places.length; i++) {
            x.ride(0, 1, 0);
            x.start(i, places[i], 10 - i);
        }
        x.wire(0, 20);
        for (int i = 0; i < places.length; i++) {
            Due.is("PLACE " + places[i], x.ofRide(i, 3), due[i]);
            Due.is("PACE stays", x.ofRide(i, 4), 10 - i);
            Due.is("under way", x.ofRide(i, 5), 0);
        }
        GorgeWire in = Whole.some();
        int came = in.ofRide(1, 6);
        in.wire(0, 239);
        Due.is("one that is in is at the new end", in.ofRide(1, 3), 2390);
        Due.is("it is in", in.ofRide(1, 5), 1);
        Due.is("CAME stays", in.ofRide(1, 6), came);
    }

    private static void spanToldMoreMovesNothing() {
        GorgeWire x = Whole.some();
        x.start(0, 2400, 0);
        x.wire(0, 241);
        Due.is("one that is in", x.ofRide(1, 3), 2400);
        Due.is("it is in still", x.ofRide(1, 5), 1);
        Due.is("one at what was the end", x.ofRide(0, 3), 2400);
        x.wire(0, 241);
        Due.is("the SPAN that it is", x.ofRide(0, 3), 2400);
    }

    private static void aSpanThatIsRefusedMovesNothing() {
        Edge.refused("wire(0, 19)", Due.BEYOND, Whole::full, x -> x.wire(0, 19));
        Edge.refused("wire(0, MIN)", Due.BEYOND, Whole::full, x -> x.wire(0, Integer.MIN_VALUE));
    }
}
