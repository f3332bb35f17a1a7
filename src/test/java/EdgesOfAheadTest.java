/** Terms 3 (AHEAD, STANDS, COMES, SNUG, LOWER) and promises 17 to 22: each sentence that names an edge. */
public final class EdgesOfAheadTest {
    private static final int HAULED = 2;

    public static void main(String[] args) {
        thenTakesZeroTo200();
        thenTakesRidesAndFactsThatAre();
        thenByZeroIsNow();
        strandsTakesZeroTo200();
        aheadGoesBeyondTheLastTick();
        looksAheadChangeNothing();
        standsTakesRidesThatAre();
        standsIsFromOneTo200();
        standsIsOfPlaceAndPace();
        standsAtPlaceZero();
        standsIsNoneForOneThatIsIn();
        comesTakesRidesThatAre();
        comesIsFromOneTo200();
        comesIsStateForOneThatIsIn();
        comesIsNoneForOneThatStands();
        snugTakesTicksTo60AndPacesTo300();
        snugTakesRidesThatAre();
        snugAsksBeyondThenStateThenNone();
        snugCountsItsTicksToTheLast();
        snugTakesCameThatIsJustQ();
        snugTriesFrom100To9900By100();
        lowerTakesTicksTo60();
        lowerTakesRidesThatAre();
        lowerAsksBeyondThenStateThenNone();
        lowerCountsItsTicksToTheLast();
        lowerTriesFromMinus99To99();
        Due.end();
    }

    /** STEEP by 50 is 0, and nothing rubs: the RIDE keeps its PACE. */
    private static GorgeWire flat(int place, int pace) {
        GorgeWire x = Whole.flat(0, 0, 0);
        x.start(0, place, pace);
        return x;
    }

    /** RIDE 0 is at the end, quick enough to come in by the next TICK; RIDE 1 is in. */
    private static GorgeWire atTheEnd() {
        GorgeWire x = Whole.some();
        x.start(0, 2400, 20);
        return x;
    }

    private static void thenTakesZeroTo200() {
        Edge.ends("then(n, 0, 3)", 0, 200, Whole::some, (x, v) -> x.then(v, 0, 3));
        GorgeWire x = flat(0, 1);
        Due.is("then(0, ..)", x.then(0, 0, 3), 0);
        Due.is("then(1, ..)", x.then(1, 0, 3), 1);
        Due.is("then(200, ..)", x.then(200, 0, 3), 200);
    }

    private static void thenTakesRidesAndFactsThatAre() {
        Edge.refused("then(0, 0, 0) of none", Due.BEYOND, Whole::fresh, x -> x.then(0, 0, 0));
        Edge.ends("then(9, ride, 3)", 0, 4, Whole::some, (x, v) -> x.then(9, v, 3));
        Edge.ends("then(9, ride, 3)", 0, 7, Whole::full, (x, v) -> x.then(9, v, 3));
        Edge.ends("then(9, 0, what)", 0, 8, Whole::some, (x, v) -> x.then(9, 0, v));
    }

    private static void thenByZeroIsNow() {
        GorgeWire x = Whole.some();
        for (int ride = 0; ride < 5; ride++) {
            for (int what = 0; what <= 8; what++) {
                Due.is("then(0, " + ride + ", " + what + ")", x.then(0, ride, what), x.ofRide(ride, what));
            }
        }
        Due.is("strands(0)", x.strands(0), x.wire(8, 5));
        Due.is("strands(0)", x.strands(0), 5);
    }

    private static void strandsTakesZeroTo200() {
        Edge.ends("strands(n)", 0, 200, Whole::some, GorgeWire::strands);
        Edge.ends("strands(n)", 0, 200, Whole::fresh, GorgeWire::strands);
        GorgeWire x = flat(2800, 1);
        Due.text(x, 0, "7");
        Due.is("strands(199)", x.strands(199), 100);
        Due.is("strands(200)", x.strands(200), 93);
        x.wire(8, 3);
        Due.is("0 at least", x.strands(200), 0);
    }

    /** NOW is the last TICK: of the 512 calls six are left. */
    private static GorgeWire last(int place, int pace) {
        GorgeWire x = Whole.flat(0, 0, 0);
        for (int i = 0; i < 499; i++) {
            x.ticks(200);
        }
        x.ticks(199);
        x.start(0, place, pace);
        return x;
    }

    private static void aheadGoesBeyondTheLastTick() {
        GorgeWire x = last(2800, 1);
        Due.is("NOW", x.count(0), 99999);
        Due.is("then(200, 0, 5)", x.then(200, 0, 5), 1);
        Due.is("then(199, 0, 3)", x.then(199, 0, 3), 2999);
        Due.is("strands(200)", x.strands(200), 100);
        Due.is("comes(0)", x.comes(0), 200);
        Due.is("NOW", x.count(0), 99999);
        x = last(2800, 1);
        x.tell(3000);
        Due.is("check(200)", x.check(200), 0);
        x = last(1000, 0);
        Due.is("stands(0)", x.stands(0), 1);
        x = last(2990, 300);
        Due.is("snug(0, 1, 300)", x.snug(0, 1, 300), 100);
        Due.is("lower(0, 1)", x.lower(0, 1), -99);
        Due.is("told(3)", x.told(3), 0);
    }

    private static void looksAheadChangeNothing() {
        Edge.onlyLooks("then(200, 0, 7)", Whole::full, x -> x.then(200, 0, 7));
        Edge.onlyLooks("strands(200)", Whole::full, x -> x.strands(200));
        Edge.onlyLooks("stands(0)", () -> flatOfMany(1000, 0), x -> x.stands(0));
        Edge.onlyLooks("comes(0)", EdgesOfAheadTest::atTheEnd, x -> x.comes(0));
        Edge.onlyLooks("snug(0, 60, 300)", EdgesOfAheadTest::atTheEnd, x -> x.snug(0, 60, 300));
        Edge.onlyLooks("lower(0, 60)", EdgesOfAheadTest::atTheEnd, x -> x.lower(0, 60));
    }

    private static GorgeWire flatOfMany(int place, int pace) {
        GorgeWire x = Whole.full();
        x.wire(1, 0);
        x.wire(2, 9999);
        x.wire(3, 1);
        x.start(0, place, pace);
        return x;
    }

    private static void standsTakesRidesThatAre() {
        Edge.refused("stands(0) of none", Due.BEYOND, Whole::fresh, x -> x.stands(0));
        for (int ride : new int[] {-1, 5, Integer.MIN_VALUE, Integer.MAX_VALUE}) {
            Edge.refused("stands(" + ride + ")", Due.BEYOND, Whole::some, x -> x.stands(ride));
        }
        Edge.refused("stands(8)", Due.BEYOND, Whole::full, x -> x.stands(8));
    }

    private static void standsIsFromOneTo200() {
        Due.is("one that stands", flat(1000, 0).stands(0), 1);
        // 198 TICKS to PLACE 0, one by which PACE is 0, one by which nothing is changed.
        Due.is("behind 200", flat(198, -1).stands(0), 200);
        Due.is("behind 199", flat(197, -1).stands(0), 199);
        Edge.refused("behind 201", Due.NONE, () -> flat(199, -1), x -> x.stands(0));
        Edge.refused("one that never stands", Due.NONE, () -> flat(0, 1), x -> x.stands(0));
    }

    private static void standsIsOfPlaceAndPace() {
        GorgeWire x = flat(1000, 5);
        x.wire(6, 5);
        // The first TICK changes PACE alone, the second nothing.
        Due.is("PACE is changed", x.stands(0), 2);
        x.start(0, 1000, 6);
        // 1, 0, and nothing.
        Due.is("PLACE and PACE are changed", x.stands(0), 3);
        GorgeWire hauled = Whole.flat(HAULED, 5, 5);
        hauled.start(0, 0, 10);
        // GAIN 5 and RUB 5: PACE is the same by each TICK, PLACE isn't; it comes in by the 300th.
        Due.is("PLACE alone is changed", hauled.stands(0), Due.NONE);
    }

    private static void standsAtPlaceZero() {
        GorgeWire x = new GorgeWire();
        x.wire(1, -99);
        x.wire(2, 9999);
        x.wire(3, 1);
        x.wire(6, 2);
        x.ride(0, 1, 0);
        Due.is("GAIN is below 0", x.ofRide(0, 7) < -x.ofRide(0, 8) ? 1 : 0, 1);
        Due.is("held at PLACE 0", x.stands(0), 1);
        x.start(0, 0, -20);
        Due.is("PACE is changed by the first", x.stands(0), 2);
    }

    private static void standsIsNoneForOneThatIsIn() {
        Edge.refused("stands(1)", Due.NONE, Whole::some, x -> x.stands(1));
        Edge.refused("one that comes in by the first TICK", Due.NONE, EdgesOfAheadTest::atTheEnd, x -> x.stands(0));
        GorgeWire x = flat(3000, 0);
        Due.is("at the end, with nothing but in changed", x.stands(0), Due.NONE);
    }

    private static void comesTakesRidesThatAre() {
        Edge.refused("comes(0) of none", Due.BEYOND, Whole::fresh, x -> x.comes(0));
        for (int ride : new int[] {-1, 5, Integer.MIN_VALUE, Integer.MAX_VALUE}) {
            Edge.refused("comes(" + ride + ")", Due.BEYOND, Whole::some, x -> x.comes(ride));
        }
        Edge.refused("comes(8)", Due.BEYOND, Whole::full, x -> x.comes(8));
    }

    private static void comesIsFromOneTo200() {
        Due.is("behind 1, standing at the end", flat(3000, 0).comes(0), 1);
        Due.is("behind 1", flat(2985, 15).comes(0), 1);
        Due.is("behind 2", flat(2984, 15).comes(0), 2);
        Due.is("behind 200", flat(0, 15).comes(0), 200);
        Due.is("behind 200", flat(2800, 1).comes(0), 200);
        Edge.refused("behind 201", Due.NONE, () -> flat(2799, 1), x -> x.comes(0));
    }

    private static void comesIsStateForOneThatIsIn() {
        Edge.refused("comes(1)", Due.STATE, Whole::some, x -> x.comes(1));
        GorgeWire x = flat(3000, 0);
        x.ticks(1);
        Due.is("in by a TICK", x.comes(0), Due.STATE);
        x.start(0, 3000, 0);
        Due.is("under way again", x.comes(0), 1);
    }

    private static void comesIsNoneForOneThatStands() {
        Edge.refused("one that stands", Due.NONE, () -> flat(2999, 0), x -> x.comes(0));
        Edge.refused("one that goes back", Due.NONE, () -> flat(2999, -1), x -> x.comes(0));
    }

    private static void snugTakesTicksTo60AndPacesTo300() {
        Edge.ends("snug(0, n, 9)", 1, 60, EdgesOfAheadTest::atTheEnd, (x, v) -> x.snug(0, v, 9));
        Edge.ends("snug(0, 9, q)", 1, 300, EdgesOfAheadTest::atTheEnd, (x, v) -> x.snug(0, 9, v));
    }

    private static void snugTakesRidesThatAre() {
        Edge.refused("snug(0, 9, 9) of none", Due.BEYOND, Whole::fresh, x -> x.snug(0, 9, 9));
        for (int ride : new int[] {-1, 5, Integer.MIN_VALUE, Integer.MAX_VALUE}) {
            Edge.refused("snug(" + ride + ", 9, 9)", Due.BEYOND, EdgesOfAheadTest::atTheEnd, x -> x.snug(ride, 9, 9));
        }
    }

    private static void snugAsksBeyondThenStateThenNone() {
        Edge.refused("one that is in", Due.STATE, Whole::some, x -> x.snug(1, 60, 300));
        Edge.refused("one that is in, n 0", Due.BEYOND, Whole::some, x -> x.snug(1, 0, 300));
        Edge.refused("one that is in, n 61", Due.BEYOND, Whole::some, x -> x.snug(1, 61, 300));
        Edge.refused("one that is in, q 0", Due.BEYOND, Whole::some, x -> x.snug(1, 60, 0));
        Edge.refused("one that is in, q 301", Due.BEYOND, Whole::some, x -> x.snug(1, 60, 301));
        Edge.refused("one that is too far", Due.NONE, Whole::some, x -> x.snug(4, 1, 300));
    }

    /** SPAN, DROP, HEAVY, RUB; KIND, WEIGHT, m; PACE at PLACE 0. */
    private static GorgeWire made(int... told) {
        GorgeWire x = new GorgeWire();
        x.wire(0, told[0]);
        x.wire(1, told[1]);
        x.wire(3, told[2]);
        x.wire(6, told[3]);
        x.ride(told[4], told[5], told[6]);
        x.start(0, 0, told[7]);
        return x;
    }

    /** In how many TICKS it comes by a PULL. */
    private static int comesBy(GorgeWire x, int what, int v) {
        int was = x.wire(what, v);
        int comes = x.comes(0);
        x.wire(what, was);
        return comes > 0 ? comes : 999;
    }

    private static void snugCountsItsTicksToTheLast() {
        // It comes by each PULL alike: with 15 a TICK in 200, from 2100 on in 60, from 2085 on in 61.
        GorgeWire x = flat(2100, 15);
        int least = 0;
        for (int pull = 9900; pull >= 100; pull -= 100) {
            least = comesBy(x, 2, pull) <= 60 ? pull : least;
        }
        Due.is("in 60", x.snug(0, 60, 300), least);
        Due.is("in 60 by 9900", comesBy(x, 2, 9900), 60);
        x = flat(2085, 15);
        Due.is("in 61 by 9900", comesBy(x, 2, 9900), 61);
        GorgeWire y = made(139, 4, 9, 0, 5, 167, 7, 35);
        int n = comesBy(y, 2, 9900);
        Due.is("in just n", y.snug(0, n, 300), 9900);
        Due.is("in one fewer", y.snug(0, n - 1, 300), Due.NONE);
    }

    private static void snugTakesCameThatIsJustQ() {
        GorgeWire x = made(41, -11, 15, 2, 5, 172, 30, 105);
        Due.is("by any PACE", x.snug(0, 16, 300), 200);
        x.wire(2, 200);
        int came = x.then(x.comes(0), 0, 6);
        Due.is("it came slower than 300", came > 0 && came < 300 ? 1 : 0, 1);
        Due.is("by just that PACE", x.snug(0, 16, came), 200);
        Due.is("by one less it isn't 200", x.snug(0, 16, came - 1) == 200 ? 1 : 0, 0);
        // q 300 is no bound: no RIDE comes quicker.
        GorgeWire quick = flat(2900, 300);
        Due.is("CAME 300", quick.snug(0, 1, 300) > 0 ? 1 : 0, 1);
        GorgeWire slow = flat(3000, 0);
        Due.is("CAME 0 by q 1", slow.snug(0, 1, 1) > 0 ? 1 : 0, 1);
    }

    private static void snugTriesFrom100To9900By100() {
        GorgeWire end = flat(2990, 300);
        Due.is("the least", end.snug(0, 1, 300), 100);
        GorgeWire greatest = made(139, 4, 9, 0, 5, 167, 7, 35);
        Due.is("the greatest", greatest.snug(0, 54, 300), 9900);
        GorgeWire above = made(134, -24, 14, 0, 5, 33, 18, 143);
        Due.is("by 9999 it comes", comesBy(above, 2, 9999) <= 15 ? 1 : 0, 1);
        Edge.refused("by 9999 alone", Due.NONE, () -> made(134, -24, 14, 0, 5, 33, 18, 143), x -> x.snug(0, 15, 300));
        GorgeWire between = made(41, -11, 15, 2, 5, 172, 30, 105);
        Due.is("by 150 it comes", comesBy(between, 2, 150) <= 16 ? 1 : 0, 1);
        Due.is("by 100 it doesn't", comesBy(between, 2, 100) <= 16 ? 1 : 0, 0);
        Due.is("150 is not tried", between.snug(0, 16, 300), 200);
        GorgeWire only = made(170, -9, 8, 2, 1, 59, 34, 60);
        Due.is("by 150 it comes", comesBy(only, 2, 150) <= 23 ? 1 : 0, 1);
        Due.is("by no other that is tried", only.snug(0, 23, 300), Due.NONE);
    }

    private static void lowerTakesTicksTo60() {
        Edge.ends("lower(0, n)", 1, 60, EdgesOfAheadTest::atTheEnd, (x, v) -> x.lower(0, v));
    }

    private static void lowerTakesRidesThatAre() {
        Edge.refused("lower(0, 9) of none", Due.BEYOND, Whole::fresh, x -> x.lower(0, 9));
        for (int ride : new int[] {-1, 5, Integer.MIN_VALUE, Integer.MAX_VALUE}) {
            Edge.refused("lower(" + ride + ", 9)", Due.BEYOND, EdgesOfAheadTest::atTheEnd, x -> x.lower(ride, 9));
        }
    }

    private static void lowerAsksBeyondThenStateThenNone() {
        Edge.refused("one that is in", Due.STATE, Whole::some, x -> x.lower(1, 60));
        Edge.refused("one that is in, n 0", Due.BEYOND, Whole::some, x -> x.lower(1, 0));
        Edge.refused("one that is in, n 61", Due.BEYOND, Whole::some, x -> x.lower(1, 61));
        Edge.refused("one that is too far", Due.NONE, Whole::some, x -> x.lower(4, 1));
    }

    private static void lowerCountsItsTicksToTheLast() {
        GorgeWire x = made(158, -9, 1, 2, 1, 94, 36, 79);
        int n = comesBy(x, 1, 99);
        Due.is("in just n", x.lower(0, n), 99);
        Due.is("in one fewer", x.lower(0, n - 1), Due.NONE);
        // A RIDE that is hauled so comes as quick as one may by each DROP: LOWER asks for no CAME.
        GorgeWire quick = made(300, 0, 1, 0, HAULED, 1, 99, 300);
        quick.start(0, 2990, 300);
        Due.is("CAME 300", quick.then(1, 0, 6), 300);
        Due.is("by the least DROP", quick.lower(0, 1), -99);
    }

    private static void lowerTriesFromMinus99To99() {
        Due.is("the least", flat(2990, 300).lower(0, 1), -99);
        GorgeWire next = made(74, -2, 14, 1, 6, 170, 37, 104);
        Due.is("the next to the least", next.lower(0, 5), -98);
        Due.is("by -99 it doesn't come", comesBy(next, 1, -99) <= 5 ? 1 : 0, 0);
        Due.is("by -98 it does", comesBy(next, 1, -98) <= 5 ? 1 : 0, 1);
        GorgeWire greatest = made(158, -9, 1, 2, 1, 94, 36, 79);
        Due.is("the greatest", greatest.lower(0, 11), 99);
        Due.is("by 98 it doesn't come", comesBy(greatest, 1, 98) <= 11 ? 1 : 0, 0);
    }
}
