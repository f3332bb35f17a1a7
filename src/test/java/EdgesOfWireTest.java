/** Terms 1 and promises 1 to 7: each sentence that names an edge, one function for each. */
public final class EdgesOfWireTest {
    private static final int[] LEAST = {20, -99, 100, 1, -40, 100, 0, -20, 0};
    private static final int[] GREATEST = {400, 99, 9999, 99, 40, 99999, 99, 20, 999};
    private static final int[] FIRST = {300, 10, 2000, 10, 0, 9000, 5, 0, 100};

    public static void main(String[] args) {
        errorsAreBelowLow();
        aNewObjectIsEmpty();
        aNewObjectIsAsAtFirst();
        wireTakesBothEndsOfEach();
        wireRefusesAnotherWhat();
        wireAnswersWhatItWas();
        tightIs100AtLeast();
        tightIsAsPullAndWarmTellAtTheirEnds();
        depthTakesYardsOfTheSpanAlone();
        depthTakesLoadsTo300();
        depthAtBothEndsIsTheDropAlone();
        depthIsCutEachByItself();
        depthIsCutTowardZero();
        depthIsReckonedWithoutLoss();
        steepTakesYardsOfTheSpanAlone();
        steepAtSpanIsThatOfTheYardAhead();
        steepHasTheLoadAtBothYards();
        pulledTakesYardsOfTheSpanAlone();
        pulledAtBothEndsIsTight();
        pulledIsCut();
        holdsIfPulledIsJustBears();
        mostIs300AtMost();
        mostIsOfAllYards();
        mostIsNoneIfNotEvenWithout();
        mostAndTightOnlyLook();
        Due.end();
    }

    private static GorgeWire told(int... whatAndV) {
        GorgeWire x = new GorgeWire();
        for (int i = 0; i + 1 < whatAndV.length; i += 2) {
            x.wire(whatAndV[i], whatAndV[i + 1]);
        }
        return x;
    }

    private static void errorsAreBelowLow() {
        GorgeWire x = new GorgeWire();
        Due.is("BEYOND", x.tight() + x.wire(9, 0), 2000 - 1000000001);
        Due.is("NONE", x.restore(), -1000000002);
        Due.is("STATE", x.sheet(0, 8, -1), -1000000003);
        for (int i = 0; i < 20; i++) {
            x.tell(i);
        }
        Due.is("FULL", x.tell(0), -1000000004);
        x.ride(0, 1, 0);
        Due.is("KIND", x.as(0, 1), -1000000005);
        for (int k = 1; k <= 5; k++) {
            Due.is("told(" + k + ")", x.told(k), 1);
        }
    }

    private static void aNewObjectIsEmpty() {
        GorgeWire x = new GorgeWire();
        for (int what = 1; what <= 7; what++) {
            Due.is("count(" + what + ")", x.count(what), 0);
        }
        Due.is("no RIDE is let go", x.check(200), 0);
        Due.is("no LOAD is brought", x.order(-1), 0);
        Due.is("no LOAD was there", x.unload(), 0);
        Due.is("no BODY began", x.trace(0), Due.NONE);
        Due.is("no IMAGE is kept", x.restore(), Due.NONE);
        Due.is("the first IMAGE", x.image(), 1);
        for (int sheet = 0; sheet < 4; sheet++) {
            Due.is("SHEET " + sheet + " is missing", x.lines(sheet), Due.NONE);
        }
        Due.is("no byte came", x.feed('1', 1), 1);
        Due.is("no number waits", x.tell(0), 1);
        Due.is("no LINE", x.line(1, 1), 0);
        Due.is("no LOAD", x.load(1, 0), 0);
        Due.is("no RIDE", x.ride(0, 1, 0), 0);
    }

    private static void aNewObjectIsAsAtFirst() {
        GorgeWire x = new GorgeWire();
        for (int what = 0; what <= 8; what++) {
            Due.is("THE WIRE's " + what, x.wire(what, FIRST[what]), FIRST[what]);
        }
        Due.is("NOW", x.count(0), 0);
        Due.is("z", x.seed(5), 1);
        Due.is("WEAR without a TEXT", x.law(0, 100, 101, 0, 0), 2);
        Due.is("GOES without a TEXT", x.law(1, 4, 0, 1, 0), 1);
        for (int k = 1; k <= 5; k++) {
            Due.is("told(" + k + ")", x.told(k), 0);
        }
    }

    private static void wireTakesBothEndsOfEach() {
        for (int what = 0; what <= 8; what++) {
            int one = what;
            Edge.ends("wire(" + what + ", v)", LEAST[what], GREATEST[what], Whole::some, (x, v) -> x.wire(one, v));
        }
    }

    private static void wireRefusesAnotherWhat() {
        // 100 is fine for SPAN and STRANDS: that THE WIRE has no such thing is all that is wrong.
        Edge.ends("wire(what, 100)", 0, 8, Whole::some, (x, v) -> x.wire(v, 100));
    }

    private static void wireAnswersWhatItWas() {
        for (int what = 0; what <= 8; what++) {
            GorgeWire x = new GorgeWire();
            Due.is("at first", x.wire(what, GREATEST[what]), FIRST[what]);
            Due.is("a refused one", x.wire(what, GREATEST[what] + 1), Due.BEYOND);
            Due.is("the greatest", x.wire(what, LEAST[what]), GREATEST[what]);
            Due.is("the least", x.wire(what, LEAST[what]), LEAST[what]);
        }
    }

    private static void tightIs100AtLeast() {
        Due.is("100, 0", told(2, 100).tight(), 100);
        Due.is("100, 1", told(2, 100, 4, 1).tight(), 100);
        Due.is("109, 1", told(2, 109, 4, 1).tight(), 100);
        Due.is("110, 1", told(2, 110, 4, 1).tight(), 100);
        Due.is("111, 1", told(2, 111, 4, 1).tight(), 101);
        Due.is("100, 40", told(2, 100, 4, 40).tight(), 100);
        Due.is("400, 40", told(2, 400, 4, 40).tight(), 100);
        Due.is("501, 40", told(2, 501, 4, 40).tight(), 101);
    }

    private static void tightIsAsPullAndWarmTellAtTheirEnds() {
        Due.is("100, -40", told(2, 100, 4, -40).tight(), 500);
        Due.is("9999, -40", told(2, 9999, 4, -40).tight(), 10399);
        Due.is("9999, 40", told(2, 9999, 4, 40).tight(), 9599);
    }

    private static void depthTakesYardsOfTheSpanAlone() {
        for (int span : new int[] {20, 21, 300, 400}) {
            Edge.ends("depth(x, 5) of " + span, 0, span, () -> told(0, span), (x, v) -> x.depth(v, 5));
        }
        Edge.ends("depth(x, 5)", 0, 240, Whole::some, (x, v) -> x.depth(v, 5));
    }

    private static void depthTakesLoadsTo300() {
        Edge.ends("depth(7, load)", 0, 300, Whole::some, (x, v) -> x.depth(7, v));
        Edge.ends("steep(7, load)", 0, 300, Whole::some, (x, v) -> x.steep(7, v));
        Edge.ends("pulled(7, load)", 0, 300, Whole::some, (x, v) -> x.pulled(7, v));
    }

    private static void depthAtBothEndsIsTheDropAlone() {
        for (int drop : new int[] {-99, -1, 0, 1, 99}) {
            GorgeWire x = told(1, drop, 0, 77);
            Due.is("here", x.depth(0, 300), 0);
            Due.is("there", x.depth(77, 300), 1000 * drop);
        }
    }

    private static void depthIsCutEachByItself() {
        // 33.3 and 747.5 and 0.498: 781.3 in all, if they weren't cut ahead.
        Due.is("depth(1, 1)", new GorgeWire().depth(1, 1), 33 + 747);
        // 33.3 and 747.5 and 1.495: the last two are 748.995, the last one alone is 1.
        Due.is("depth(1, 3)", new GorgeWire().depth(1, 3), 33 + 747 + 1);
    }

    private static void depthIsCutTowardZero() {
        // -23.3 is -23, not -24; with 747.5 it is no -23.3 + 747.5 either.
        Due.is("DROP -7", told(1, -7).depth(1, 0), -23 + 747);
        // -3.3 at the yard 1 and -6.6 at the yard 2.
        Due.is("DROP -1", told(1, -1).depth(1, 0), -3 + 747);
        Due.is("DROP -1", told(1, -1).depth(2, 0), -6 + 1490);
    }

    private static void depthIsReckonedWithoutLoss() {
        GorgeWire x = told(0, 400, 1, -99, 2, 100, 3, 99);
        // 1000 * 300 * 200 * 200 is 12000000000: no int.
        Due.is("depth(200, 300)", x.depth(200, 300), -49500 + 19800000 + 300000);
        // 1000 * 300 * 3 * 397 by 40000 is 8932.5; 500 * 99 * 3 * 397 by 100 is 589545.
        Due.is("depth(3, 300)", x.depth(3, 300), -742 + 589545 + 8932);
        // 1000 * 300 * 199 * 201 by 40000 is 299992.5.
        Due.is("depth(199, 300)", x.depth(199, 300), -49252 + 19799505 + 299992);
    }

    private static void steepTakesYardsOfTheSpanAlone() {
        for (int span : new int[] {20, 400}) {
            Edge.ends("steep(x, 5) of " + span, 0, span, () -> told(0, span), (x, v) -> x.steep(v, 5));
        }
        Edge.ends("steep(x, 5)", 0, 240, Whole::some, (x, v) -> x.steep(v, 5));
    }

    private static void steepAtSpanIsThatOfTheYardAhead() {
        for (int span : new int[] {20, 21, 400}) {
            GorgeWire x = told(0, span, 1, 7);
            int due = 7000 - x.depth(span - 1, 120);
            Due.is("at SPAN", x.steep(span, 120), due);
            Due.is("ahead of SPAN", x.steep(span - 1, 120), due);
            Due.is("a yard more ahead", x.steep(span - 2, 120), x.depth(span - 1, 120) - x.depth(span - 2, 120));
        }
    }

    private static void steepHasTheLoadAtBothYards() {
        GorgeWire x = new GorgeWire();
        // At the yard 1 with 300: 33 + 747 + 149; at 0 nothing.
        Due.is("steep(0, 300)", x.steep(0, 300), 929);
        // At the yard 2: 66 + 1490 + 298.
        Due.is("steep(1, 300)", x.steep(1, 300), 1854 - 929);
    }

    private static void pulledTakesYardsOfTheSpanAlone() {
        for (int span : new int[] {20, 400}) {
            Edge.ends("pulled(x, 5) of " + span, 0, span, () -> told(0, span), (x, v) -> x.pulled(v, 5));
        }
        Edge.ends("pulled(x, 5)", 0, 240, Whole::some, (x, v) -> x.pulled(v, 5));
    }

    private static void pulledAtBothEndsIsTight() {
        GorgeWire x = told(2, 100, 4, 40);
        Due.is("here", x.pulled(0, 300), 100);
        Due.is("there", x.pulled(300, 300), 100);
        Due.is("between, with no load", x.pulled(150, 0), 100);
    }

    private static void pulledIsCut() {
        GorgeWire x = new GorgeWire();
        Due.is("4 * 150 * 150 by 90000 is 1", x.pulled(150, 1), 2001);
        Due.is("4 * 149 * 151 by 90000 is less", x.pulled(149, 1), 2000);
        Due.is("4 * 300 * 200 * 200 by 160000", told(0, 400).pulled(200, 300), 2300);
    }

    private static void holdsIfPulledIsJustBears() {
        Due.is("PULLED is 2100 with 100", told(5, 2100).most(), 100);
        Due.is("PULLED is 2101 with 101", told(5, 2101).most(), 101);
        Due.is("PULLED is 2000 with 0", told(5, 2000).most(), 0);
        Due.is("PULLED is 2001 with 1", told(5, 2001).most(), 1);
        Due.is("BEARS the least", told(2, 100, 5, 100).most(), 0);
    }

    private static void mostIs300AtMost() {
        Due.is("BEARS 2299", told(5, 2299).most(), 299);
        Due.is("BEARS 2300", told(5, 2300).most(), 300);
        Due.is("BEARS 2301", told(5, 2301).most(), 300);
        Due.is("BEARS the greatest", told(5, 99999).most(), 300);
    }

    private static void mostIsOfAllYards() {
        // SPAN 21 has no middle: at 10 and 11 it is 4 * L * 110 by 441, which is 299 with 300.
        Due.is("SPAN 21, BEARS 2299", told(0, 21, 5, 2299).most(), 300);
        Due.is("SPAN 21, BEARS 2298", told(0, 21, 5, 2298).most(), 299);
        Due.is("SPAN 20, BEARS 2299", told(0, 20, 5, 2299).most(), 299);
    }

    private static void mostIsNoneIfNotEvenWithout() {
        Edge.refused("most() of BEARS 1999", Due.NONE, () -> told(5, 1999), GorgeWire::most);
        Edge.refused("most() of WARM -1", Due.NONE, () -> told(5, 2000, 4, -1), GorgeWire::most);
        Edge.refused("most() of BEARS 100", Due.NONE, () -> {
            GorgeWire x = Whole.full();
            x.wire(5, 100);
            return x;
        }, GorgeWire::most);
    }

    private static void mostAndTightOnlyLook() {
        Edge.onlyLooks("most()", Whole::some, GorgeWire::most);
        Edge.onlyLooks("tight()", Whole::some, GorgeWire::tight);
        Edge.onlyLooks("depth", Whole::some, x -> x.depth(240, 300));
        Edge.onlyLooks("steep", Whole::some, x -> x.steep(240, 300));
        Edge.onlyLooks("pulled", Whole::some, x -> x.pulled(240, 300));
    }
}
