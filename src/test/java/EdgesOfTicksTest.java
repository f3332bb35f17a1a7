import java.util.function.Supplier;

/** Terms 3 (a TICK, DRAWS, a GUSTY TICK) and promises 15, 16: each sentence that names an edge, one function for each. */
public final class EdgesOfTicksTest {
    private static final int HAULED = 2;
    private static final int WINDY = 4;

    public static void main(String[] args) {
        ticksTakesOneTo200();
        gustsTakesOneTo200();
        theLastTickIs99999();
        theLastTickIsNowForTexts();
        ticksAboveTheLastAreRefused();
        gustsAboveTheLastAreRefused();
        beyondIsAskedAheadOfStateOfTicks();
        ticksGoByWithoutRides();
        paceThatIsZeroIsNotRubbed();
        rubStopsAtZero();
        paceIsHeldBehindTheRub();
        placeAtTheEndIsIn();
        placeBeyondTheEndIsTheEnd();
        oneThatStandsAtTheEndIsIn();
        oneThatIsInGoesNoMore();
        strandsAreZeroAtLeast();
        strandsAreLessByWearOfThePace();
        ridesComeInByNumbers();
        placeBelowZeroIsZero();
        placeAtZeroKeepsItsPace();
        drawsGoRound();
        drawsAreNeverBelowZero();
        windOfADrawIsFromMinus20To20();
        aGustIsAheadOfItsTick();
        everyGustIsADraw();
        ticksDrawNothing();
        Due.end();
    }

    /** NOW is 99800, 499 calls behind those that are told. */
    private static GorgeWire late(Supplier<GorgeWire> maker) {
        GorgeWire x = maker.get();
        for (int i = 0; i < 499; i++) {
            x.ticks(200);
        }
        return x;
    }

    private static void ticksTakesOneTo200() {
        Edge.ends("ticks(n)", 1, 200, Whole::some, GorgeWire::ticks);
        Due.is("ticks(1)", Whole.some().ticks(1), 21);
        Due.is("ticks(200)", Whole.some().ticks(200), 220);
    }

    private static void gustsTakesOneTo200() {
        Edge.ends("gusts(n)", 1, 200, Whole::some, GorgeWire::gusts);
        for (int n : new int[] {1, 200}) {
            GorgeWire x = Whole.some();
            x.gusts(n);
            Due.is("NOW behind gusts(" + n + ")", x.count(0), 20 + n);
        }
    }

    private static void theLastTickIs99999() {
        GorgeWire x = late(Whole::fresh);
        Due.is("ticks(199)", x.ticks(199), 99999);
        Due.is("ticks(1)", x.ticks(1), Due.STATE);
        Due.is("gusts(1)", x.gusts(1), Due.STATE);
        Due.is("NOW", x.count(0), 99999);
        Due.is("told(3)", x.told(3), 2);
        GorgeWire y = late(Whole::fresh);
        Due.is("ticks(198)", y.ticks(198), 99998);
        Due.is("ticks(2)", y.ticks(2), Due.STATE);
        Due.is("ticks(1)", y.ticks(1), 99999);
        GorgeWire z = late(Whole::fresh);
        z.gusts(199);
        Due.is("gusts(199)", z.count(0), 99999);
        Due.is("gusts(1)", z.gusts(1), Due.STATE);
        Due.is("ticks(1)", z.ticks(1), Due.STATE);
    }

    private static void theLastTickIsNowForTexts() {
        GorgeWire x = late(Whole::fresh);
        x.ticks(199);
        Due.is("t=9999*10+9", Due.text(x, 1, "t=9999*10+9"), 1);
        Due.is("it GOES", x.ride(0, 1, 0), 0);
    }

    private static void ticksAboveTheLastAreRefused() {
        GorgeWire x = late(() -> Whole.flat(0, 0, 0));
        x.start(0, 1000, 1);
        Due.is("ticks(200)", x.ticks(200), Due.STATE);
        Due.is("NOW stays", x.count(0), 99800);
        Due.is("PLACE stays", x.ofRide(0, 3), 1000);
        Due.is("told(3)", x.told(3), 1);
        Due.is("ticks(199)", x.ticks(199), 99999);
        Due.is("PLACE", x.ofRide(0, 3), 1199);
    }

    private static void gustsAboveTheLastAreRefused() {
        GorgeWire x = late(() -> Whole.flat(0, 0, 0));
        x.start(0, 1000, 1);
        Due.is("gusts(200)", x.gusts(200), Due.STATE);
        Due.is("z stays", x.count(8), 1);
        Due.is("WIND stays", x.wire(7, 3), 0);
        Due.is("PLACE stays", x.ofRide(0, 3), 1000);
        Due.is("told(3)", x.told(3), 1);
    }

    private static void beyondIsAskedAheadOfStateOfTicks() {
        GorgeWire x = late(Whole::fresh);
        x.ticks(199);
        for (int n : new int[] {0, 201, Integer.MIN_VALUE, Integer.MAX_VALUE}) {
            Due.is("ticks(" + n + ")", x.ticks(n), Due.BEYOND);
            Due.is("gusts(" + n + ")", x.gusts(n), Due.BEYOND);
        }
        Due.is("told(1)", x.told(1), 8);
        Due.is("told(3)", x.told(3), 0);
    }

    private static void ticksGoByWithoutRides() {
        GorgeWire x = new GorgeWire();
        Due.is("ticks(200)", x.ticks(200), 200);
        Due.is("STRANDS", x.strands(0), 100);
    }

    private static void tick(GorgeWire x, int place, int pace) {
        x.start(0, place, pace);
        x.ticks(1);
    }

    private static void paceThatIsZeroIsNotRubbed() {
        GorgeWire x = Whole.flat(0, 0, 99);
        tick(x, 1000, 0);
        Due.is("PACE", x.ofRide(0, 4), 0);
        Due.is("PLACE", x.ofRide(0, 3), 1000);
        GorgeWire hauled = Whole.flat(HAULED, 40, 0);
        tick(hauled, 1000, -40);
        Due.is("0 by its GAIN", hauled.ofRide(0, 4), 0);
        hauled.wire(6, 7);
        tick(hauled, 1000, -40);
        Due.is("and not rubbed then", hauled.ofRide(0, 4), 0);
    }

    private static void rubStopsAtZero() {
        int[][] paceAndThen = {{8, 1}, {7, 0}, {6, 0}, {1, 0}, {-1, 0}, {-6, 0}, {-7, 0}, {-8, -1}, {300, 293}};
        for (int[] p : paceAndThen) {
            GorgeWire x = Whole.flat(0, 0, 7);
            tick(x, 1000, p[0]);
            Due.is("PACE " + p[0] + " rubbed by 7", x.ofRide(0, 4), p[1]);
            Due.is("PLACE is more by that", x.ofRide(0, 3), 1000 + p[1]);
        }
        GorgeWire x = Whole.flat(0, 0, 0);
        tick(x, 1000, -5);
        Due.is("PACE -5 rubbed by 0", x.ofRide(0, 4), -5);
    }

    private static void paceIsHeldBehindTheRub() {
        GorgeWire x = Whole.flat(HAULED, 50, 20);
        tick(x, 0, 300);
        Due.is("350, 330, held", x.ofRide(0, 4), 300);
        tick(x, 0, 270);
        Due.is("320, 300", x.ofRide(0, 4), 300);
        tick(x, 0, 269);
        Due.is("319, 299", x.ofRide(0, 4), 299);
        Due.is("PLACE is more by that", x.ofRide(0, 3), 299);
        GorgeWire windy = Whole.flat(WINDY, 0, 10);
        windy.wire(7, -20);
        tick(windy, 1000, -300);
        Due.is("-320, -310, held", windy.ofRide(0, 4), -300);
        tick(windy, 1000, -290);
        Due.is("-310, -300", windy.ofRide(0, 4), -300);
        tick(windy, 1000, -289);
        Due.is("-309, -299", windy.ofRide(0, 4), -299);
        Due.is("PLACE is less by that", windy.ofRide(0, 3), 701);
    }

    private static void placeAtTheEndIsIn() {
        GorgeWire x = Whole.flat(0, 0, 0);
        tick(x, 2990, 9);
        Due.is("a tenth ahead", x.ofRide(0, 3), 2999);
        Due.is("is under way", x.ofRide(0, 5), 0);
        Due.is("PACE stays", x.ofRide(0, 4), 9);
        Due.is("CAME stays", x.ofRide(0, 6), 0);
        Due.is("one is under way", x.count(2), 1);
        tick(x, 2990, 10);
        Due.is("at the end", x.ofRide(0, 3), 3000);
        Due.is("is in", x.ofRide(0, 5), 1);
        Due.is("PACE is 0", x.ofRide(0, 4), 0);
        Due.is("CAME is the PACE", x.ofRide(0, 6), 10);
        Due.is("none is under way", x.count(2), 0);
    }

    private static void placeBeyondTheEndIsTheEnd() {
        GorgeWire x = Whole.flat(0, 0, 0);
        tick(x, 2999, 300);
        Due.is("PLACE", x.ofRide(0, 3), 3000);
        Due.is("CAME", x.ofRide(0, 6), 300);
        x.wire(0, 20);
        tick(x, 200, 300);
        Due.is("PLACE of SPAN 20", x.ofRide(0, 3), 200);
        x.wire(0, 400);
        tick(x, 3999, 2);
        Due.is("PLACE of SPAN 400", x.ofRide(0, 3), 4000);
    }

    private static void oneThatStandsAtTheEndIsIn() {
        GorgeWire x = Whole.flat(0, 0, 5);
        x.start(0, 3000, 0);
        Due.is("ahead of a TICK it isn't", x.ofRide(0, 5), 0);
        x.ticks(1);
        Due.is("behind it it is", x.ofRide(0, 5), 1);
        Due.is("CAME 0", x.ofRide(0, 6), 0);
        tick(x, 3000, -5);
        Due.is("rubbed to 0 it is", x.ofRide(0, 5), 1);
        tick(x, 3000, -6);
        Due.is("back by a tenth it isn't", x.ofRide(0, 5), 0);
        Due.is("PLACE", x.ofRide(0, 3), 2999);
    }

    private static void oneThatIsInGoesNoMore() {
        GorgeWire x = Whole.flat(HAULED, 99, 0);
        tick(x, 3000, 50);
        int strands = x.strands(0);
        x.wire(0, 400);
        x.ticks(200);
        Due.is("PLACE", x.ofRide(0, 3), 3000);
        Due.is("PACE", x.ofRide(0, 4), 0);
        Due.is("CAME", x.ofRide(0, 6), 149);
        Due.is("it wears no more", x.strands(0), strands);
    }

    private static void strandsAreZeroAtLeast() {
        int[][] strandsAndThen = {{0, 0}, {1, 0}, {9, 0}, {10, 0}, {11, 1}, {999, 989}};
        for (int[] s : strandsAndThen) {
            GorgeWire x = Whole.flat(0, 0, 0);
            Due.text(x, 0, "10");
            x.wire(8, s[0]);
            tick(x, 3000, 0);
            Due.is("STRANDS " + s[0] + " less by 10", x.strands(0), s[1]);
        }
    }

    private static void strandsAreLessByWearOfThePace() {
        // PACE 280 and GAIN 50, less 20, held: it comes at 300.
        GorgeWire x = Whole.flat(HAULED, 50, 20);
        Due.text(x, 0, "p-290");
        tick(x, 2999, 280);
        Due.is("CAME", x.ofRide(0, 6), 300);
        Due.is("STRANDS", x.strands(0), 90);
        // Without a TEXT 101 is quick, 100 isn't.
        GorgeWire quick = Whole.flat(0, 0, 0);
        tick(quick, 2999, 100);
        Due.is("by 100", quick.strands(0), 100);
        tick(quick, 2999, 101);
        Due.is("by 101", quick.strands(0), 99);
    }

    private static void ridesComeInByNumbers() {
        GorgeWire x = Whole.flat(0, 0, 0);
        x.ride(0, 2, 0);
        x.ride(0, 3, 0);
        // WEAR is the half of the STRANDS of then and the WEIGHT: 100, 49, 23, 9.
        Due.text(x, 0, "s/2+w");
        for (int ride = 0; ride < 3; ride++) {
            x.start(ride, 3000, 0);
        }
        x.ticks(1);
        Due.is("STRANDS", x.strands(0), 9);
    }

    private static void placeBelowZeroIsZero() {
        GorgeWire x = Whole.flat(0, 0, 0);
        tick(x, 9, -10);
        Due.is("PLACE", x.ofRide(0, 3), 0);
        Due.is("PACE", x.ofRide(0, 4), 0);
        Due.is("under way", x.ofRide(0, 5), 0);
        Due.is("CAME stays", x.ofRide(0, 6), 0);
        tick(x, 0, -300);
        Due.is("PLACE", x.ofRide(0, 3), 0);
        Due.is("PACE", x.ofRide(0, 4), 0);
    }

    private static void placeAtZeroKeepsItsPace() {
        GorgeWire x = Whole.flat(0, 0, 0);
        tick(x, 10, -10);
        Due.is("PLACE", x.ofRide(0, 3), 0);
        Due.is("PACE", x.ofRide(0, 4), -10);
        tick(x, 11, -10);
        Due.is("PLACE", x.ofRide(0, 3), 1);
        Due.is("PACE", x.ofRide(0, 4), -10);
    }

    private static int drawn(int z) {
        return (int) ((z * 1103515245L + 12345L) & 0xFFFFFFFFL);
    }

    private static void drawsGoRound() {
        for (int z : new int[] {0, 1, -1, Integer.MAX_VALUE, Integer.MIN_VALUE, 6, 77}) {
            GorgeWire x = new GorgeWire();
            x.seed(z);
            x.gusts(1);
            Due.is("z behind " + z, x.count(8), drawn(z));
            x.gusts(1);
            Due.is("z behind that", x.count(8), drawn(drawn(z)));
        }
    }

    private static void drawsAreNeverBelowZero() {
        int below = 0;
        for (int z = -40; z < 40; z++) {
            GorgeWire x = new GorgeWire();
            x.seed(z);
            long draw = (drawn(z) & 0xFFFFFFFFL) / 256;
            below += drawn(z) < 0 ? 1 : 0;
            Due.is("WIND by " + z, x.gusts(1), draw % 41 - 20);
        }
        Due.is("z was below 0", below > 10 ? 1 : 0, 1);
    }

    private static void windOfADrawIsFromMinus20To20() {
        boolean least = false;
        boolean greatest = false;
        for (int z = 0; z < 400; z++) {
            GorgeWire x = new GorgeWire();
            x.seed(z);
            int wind = x.gusts(1);
            Due.is("WIND of " + z, Math.abs(wind) <= 20 ? 1 : 0, 1);
            Due.is("WIND is told so", x.wire(7, 0), wind);
            least |= wind == -20;
            greatest |= wind == 20;
        }
        Due.is("-20 and 20 came", least && greatest ? 1 : 0, 1);
    }

    private static void aGustIsAheadOfItsTick() {
        GorgeWire x = Whole.flat(WINDY, 0, 0);
        x.start(0, 1500, 0);
        x.wire(7, 20);
        int wind = x.gusts(1);
        Due.is("the WIND isn't 20", wind != 20 ? 1 : 0, 1);
        Due.is("PACE by the new WIND", x.ofRide(0, 4), wind);
        Due.is("PLACE by it", x.ofRide(0, 3), 1500 + wind);
    }

    private static void everyGustIsADraw() {
        GorgeWire x = Whole.flat(WINDY, 0, 0);
        x.start(0, 1500, 0);
        x.seed(Integer.MIN_VALUE);
        int z = Integer.MIN_VALUE;
        int pace = 0;
        int place = 1500;
        int wind = 0;
        for (int i = 0; i < 5; i++) {
            z = drawn(z);
            wind = (z >>> 8) % 41 - 20;
            pace += wind;
            place += pace;
        }
        Due.is("gusts(5)", x.gusts(5), wind);
        Due.is("z", x.count(8), z);
        Due.is("PACE", x.ofRide(0, 4), pace);
        Due.is("PLACE", x.ofRide(0, 3), place);
        GorgeWire none = new GorgeWire();
        none.gusts(200);
        z = 1;
        for (int i = 0; i < 200; i++) {
            z = drawn(z);
        }
        Due.is("200 draws, without RIDES", none.count(8), z);
    }

    private static void ticksDrawNothing() {
        GorgeWire x = Whole.some();
        x.ticks(200);
        Due.is("z", x.count(8), 77);
        Due.is("WIND", x.wire(7, 0), 5);
    }
}
