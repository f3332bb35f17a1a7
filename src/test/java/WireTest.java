/** Promises 1 to 7: a new object, wire, depth, steep, pulled, most, tight. */
public final class WireTest {
    private static final int[] LEAST = {20, -99, 100, 1, -40, 100, 0, -20, 0};
    private static final int[] GREATEST = {400, 99, 9999, 99, 40, 99999, 99, 20, 999};
    private static final int[] FIRST = {300, 10, 2000, 10, 0, 9000, 5, 0, 100};

    public static void main(String[] args) {
        newObject();
        wireBounds();
        spanToldLess();
        depthAgainstExactReckoning();
        depthEdges();
        steepIsADifference();
        pulledAndMost();
        tightHasALeast();
        Due.end();
    }

    private static void newObject() {
        GorgeWire x = new GorgeWire();
        int[] counts = {0, 0, 0, 0, 0, 0, 0, 0, 1};
        for (int what = 0; what <= 8; what++) {
            Due.is("count(" + what + ") at first", x.count(what), counts[what]);
        }
        for (int k = 1; k <= 5; k++) {
            Due.is("told(" + k + ") at first", x.told(k), 0);
        }
        for (int what = 0; what <= 8; what++) {
            Due.is("wire(" + what + ") at first", x.wire(what, FIRST[what]), FIRST[what]);
        }
        Due.is("no RIDE", x.ofRide(0, 0), Due.BEYOND);
        Due.is("no LINE", x.over(0, -1), Due.BEYOND);
        Due.is("no LOAD", x.order(0), Due.NONE);
        Due.is("no TRACE", x.trace(0), Due.NONE);
        Due.is("no IMAGE", x.restore(), Due.NONE);
        for (int sheet = 0; sheet < 4; sheet++) {
            Due.is("SHEET is missing", x.put(sheet, 0, 0), Due.NONE);
        }
        Due.is("empty TAPE", x.text(0), -10);
    }

    private static void wireBounds() {
        for (int what = 0; what <= 8; what++) {
            GorgeWire x = new GorgeWire();
            String call = "wire(" + what + ", ..)";
            Due.is(call + " least", x.wire(what, LEAST[what]), FIRST[what]);
            Due.is(call + " below", x.wire(what, LEAST[what] - 1), Due.BEYOND);
            Due.is(call + " greatest", x.wire(what, GREATEST[what]), LEAST[what]);
            Due.is(call + " above", x.wire(what, GREATEST[what] + 1), Due.BEYOND);
            Due.is(call + " far above", x.wire(what, Integer.MAX_VALUE), Due.BEYOND);
            Due.is(call + " far below", x.wire(what, Integer.MIN_VALUE), Due.BEYOND);
            Due.is(call + " stayed", x.wire(what, FIRST[what]), GREATEST[what]);
            Due.is("told(1)", x.told(1), 4);
        }
        GorgeWire x = new GorgeWire();
        for (int what : new int[] {-1, 9, Integer.MIN_VALUE, Integer.MAX_VALUE}) {
            Due.is("wire(" + what + ", 20)", x.wire(what, 20), Due.BEYOND);
        }
    }

    private static void spanToldLess() {
        GorgeWire x = new GorgeWire();
        x.ride(0, 10, 0);
        x.ride(0, 10, 0);
        x.ride(2, 10, 99);
        x.ticks(60);
        Due.is("the third is in", x.ofRide(2, 5), 1);
        x.start(0, 1000, 7);
        x.start(1, 1001, 7);
        Due.is("wire(0, 100)", x.wire(0, 100), 300);
        Due.is("at the end stays", x.ofRide(0, 3), 1000);
        Due.is("beyond comes to the end", x.ofRide(1, 3), 1000);
        Due.is("its PACE stays", x.ofRide(1, 4), 7);
        Due.is("it is still under way", x.ofRide(1, 5), 0);
        Due.is("one that is in comes to the end, too", x.ofRide(2, 3), 1000);
        x.wire(0, 400);
        Due.is("PLACE stays as SPAN is told more", x.ofRide(1, 3), 1000);
        Due.is("in stays in", x.ofRide(2, 5), 1);
        x.wire(0, 99);
        x.wire(1, 5);
        Due.is("beyond by one yard", x.ofRide(0, 3), 990);
    }

    /** DEPTH by whole numbers of any size, each quotient cut by itself. */
    private static long depthDue(long span, long drop, long taut, long heavy, long x, long load) {
        java.math.BigInteger first = cut(1000 * drop * x, span);
        java.math.BigInteger second = cut(500 * heavy * x * (span - x), taut);
        java.math.BigInteger third = cut(1000 * load * x * (span - x), span * taut);
        return first.add(second).add(third).longValueExact();
    }

    private static java.math.BigInteger cut(long a, long b) {
        return java.math.BigInteger.valueOf(a).divide(java.math.BigInteger.valueOf(b));
    }

    private static void depthAgainstExactReckoning() {
        java.util.Random random = new java.util.Random(7);
        for (int round = 0; round < 3000; round++) {
            GorgeWire w = new GorgeWire();
            int span = 20 + random.nextInt(381);
            int drop = random.nextInt(199) - 99;
            int pull = 100 + random.nextInt(round % 2 == 0 ? 9900 : 300);
            int heavy = 1 + random.nextInt(99);
            int warm = random.nextInt(81) - 40;
            w.wire(0, span);
            w.wire(1, drop);
            w.wire(2, pull);
            w.wire(3, heavy);
            w.wire(4, warm);
            int x = random.nextInt(span + 1);
            int load = random.nextInt(301);
            int taut = Math.max(100, pull - 10 * warm);
            String at = " of " + span + " " + drop + " " + pull + " " + heavy + " " + warm + " at " + x + ", " + load;
            Due.is("tight" + at, w.tight(), taut);
            Due.is("depth" + at, w.depth(x, load), depthDue(span, drop, taut, heavy, x, load));
            int from = Math.min(x, span - 1);
            Due.is("steep" + at, w.steep(x, load), depthDue(span, drop, taut, heavy, from + 1, load)
                    - depthDue(span, drop, taut, heavy, from, load));
            Due.is("pulled" + at, w.pulled(x, load),
                    taut + 4L * load * x * (span - x) / ((long) span * span));
        }
    }

    private static void depthEdges() {
        GorgeWire x = new GorgeWire();
        Due.is("depth(-1, 0)", x.depth(-1, 0), Due.BEYOND);
        Due.is("depth(0, -1)", x.depth(0, -1), Due.BEYOND);
        Due.is("depth(301, 0)", x.depth(301, 0), Due.BEYOND);
        Due.is("depth(300, 0)", x.depth(300, 0), 10000);
        Due.is("depth(150, 301)", x.depth(150, 301), Due.BEYOND);
        Due.is("steep(-1, 0)", x.steep(-1, 0), Due.BEYOND);
        Due.is("steep(301, 0)", x.steep(301, 0), Due.BEYOND);
        Due.is("steep(0, 301)", x.steep(0, 301), Due.BEYOND);
        Due.is("steep(0, -1)", x.steep(0, -1), Due.BEYOND);
        Due.is("pulled(-1, 0)", x.pulled(-1, 0), Due.BEYOND);
        Due.is("pulled(301, 0)", x.pulled(301, 0), Due.BEYOND);
        Due.is("pulled(0, 301)", x.pulled(0, 301), Due.BEYOND);
        Due.is("pulled(0, -1)", x.pulled(0, -1), Due.BEYOND);
        Due.is("told(1)", x.told(1), 12);
        x.wire(1, -7);
        // 1000 * -7 * 1 / 300 is -23.3: cut toward 0, not down.
        Due.is("depth(1, 0) of DROP -7", x.depth(1, 0), -23 + 747);
        x.wire(0, 400);
        x.wire(2, 100);
        x.wire(3, 99);
        Due.is("the deepest", x.depth(200, 300), -3500 + 19800000 + 300000);
        x.wire(0, 20);
        Due.is("depth(21, 0) of SPAN 20", x.depth(21, 0), Due.BEYOND);
    }

    private static void steepIsADifference() {
        GorgeWire x = new GorgeWire();
        for (int yard = 0; yard < 300; yard += 13) {
            Due.is("steep(" + yard + ", 200)", x.steep(yard, 200), x.depth(yard + 1, 200) - x.depth(yard, 200));
        }
        Due.is("steep at SPAN", x.steep(300, 200), x.depth(300, 200) - x.depth(299, 200));
        Due.is("steep ahead of SPAN", x.steep(299, 200), x.depth(300, 200) - x.depth(299, 200));
    }

    private static void pulledAndMost() {
        GorgeWire x = new GorgeWire();
        int[] spans = {20, 21, 99, 300, 400};
        for (int span : spans) {
            x.wire(0, span);
            for (int bears = 1990; bears <= 2310; bears += 37) {
                x.wire(5, bears);
                Due.is("most() of SPAN " + span + ", BEARS " + bears, x.most(), mostDue(x, span, bears));
            }
        }
        x.wire(5, 2000);
        Due.is("it HOLDS with 0 alone", x.most(), 0);
        x.wire(5, 99999);
        Due.is("most() of great BEARS", x.most(), 300);
        x.wire(5, 2000);
        x.wire(4, -1);
        Due.is("cold pulls too much", x.most(), Due.NONE);
        Due.is("told(2)", x.told(2), 1 + spans.length);
    }

    private static int mostDue(GorgeWire x, int span, int bears) {
        int most = Due.NONE;
        for (int load = 0; load <= 300; load++) {
            boolean holds = true;
            for (int yard = 0; yard <= span; yard++) {
                holds &= 2000 + 4L * load * yard * (span - yard) / ((long) span * span) <= bears;
            }
            most = holds ? load : most;
        }
        return most;
    }

    private static void tightHasALeast() {
        GorgeWire x = new GorgeWire();
        x.wire(2, 500);
        x.wire(4, 40);
        Due.is("tight() of 500, 40", x.tight(), 100);
        x.wire(4, 39);
        Due.is("tight() of 500, 39", x.tight(), 110);
        x.wire(4, -40);
        Due.is("tight() of 500, -40", x.tight(), 900);
        x.wire(2, 9999);
        Due.is("tight() of 9999, -40", x.tight(), 10399);
    }
}
