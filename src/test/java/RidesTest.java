/** Promises 8 to 11: ride, ofRide, as, start. */
public final class RidesTest {
    private static final int[] ABOVE = {-1, 0, 0, 1, 0, 3, 2};

    public static void main(String[] args) {
        bounds();
        orderOfErrors();
        goesByText();
        facts();
        gains();
        rubs();
        kinds();
        starts();
        Due.end();
    }

    private static void bounds() {
        GorgeWire x = new GorgeWire();
        int[][] wrong = {{-1, 1, 0}, {7, 1, 0}, {0, 0, 0}, {0, 301, 0}, {0, -5, 0}, {0, 1, -1}, {0, 1, 100},
            {Integer.MIN_VALUE, 1, 0}, {0, Integer.MAX_VALUE, 0}, {0, 1, Integer.MIN_VALUE}};
        for (int[] w : wrong) {
            Due.is("ride(" + w[0] + ", " + w[1] + ", " + w[2] + ")", x.ride(w[0], w[1], w[2]), Due.BEYOND);
        }
        Due.is("count(1)", x.count(1), 0);
        Due.is("ride(6, 300, 99)", x.ride(6, 300, 99), 0);
        Due.is("ride(0, 1, 0)", x.ride(0, 1, 0), 1);
        Due.is("count(1)", x.count(1), 2);
        Due.is("told(1)", x.told(1), wrong.length);
    }

    private static void orderOfErrors() {
        GorgeWire x = new GorgeWire();
        for (int i = 0; i < 8; i++) {
            Due.is("ride " + i, x.ride(0, 100, 0), i);
        }
        Due.is("a ninth", x.ride(0, 100, 0), Due.FULL);
        x.wire(8, 20);
        Due.is("a ninth that doesn't GO", x.ride(0, 100, 0), Due.STATE);
        Due.is("a ninth that is beyond", x.ride(0, 301, 0), Due.BEYOND);
        Due.is("count(1)", x.count(1), 8);
        Due.is("told(3)", x.told(3), 1);
        Due.is("told(4)", x.told(4), 1);
    }

    private static void goesByText() {
        GorgeWire x = new GorgeWire();
        x.wire(8, 40);
        Due.is("s*5>w: 200>200", x.ride(0, 200, 0), Due.STATE);
        Due.is("s*5>w: 200>199", x.ride(0, 199, 0), 0);
        Due.is("text", Due.text(x, 1, "w-50"), 1);
        Due.is("0 doesn't GO", x.ride(0, 50, 0), Due.STATE);
        Due.is("below 0 GOES", x.ride(0, 49, 0), 1);
        Due.is("text", Due.text(x, 1, "v=3&s=40&t=2&w=7"), 1);
        x.wire(7, 3);
        Due.is("NOW is 0", x.ride(0, 7, 0), Due.STATE);
        x.ticks(2);
        Due.is("NOW is 2", x.ride(0, 7, 0), 2);
        Due.is("another WEIGHT", x.ride(0, 8, 0), Due.STATE);
        x.wire(7, 4);
        Due.is("another WIND", x.ride(0, 7, 0), Due.STATE);
    }

    private static void facts() {
        GorgeWire x = new GorgeWire();
        x.ride(6, 300, 99);
        x.ride(3, 1, 12);
        int[] first = {3, 1, 12, 0, 0, 0, 0};
        for (int what = 0; what < first.length; what++) {
            Due.is("ofRide(1, " + what + ")", x.ofRide(1, what), first[what]);
        }
        Due.is("ofRide(0, 9)", x.ofRide(0, 9), Due.BEYOND);
        Due.is("ofRide(0, -1)", x.ofRide(0, -1), Due.BEYOND);
        Due.is("ofRide(2, 0)", x.ofRide(2, 0), Due.BEYOND);
        Due.is("ofRide(-1, 0)", x.ofRide(-1, 0), Due.BEYOND);
        Due.is("ofRide(8, 0)", x.ofRide(8, 0), Due.BEYOND);
        int n = x.comes(0);
        x.ticks(n);
        Due.is("PLACE at the end", x.ofRide(0, 3), 3000);
        Due.is("PACE in", x.ofRide(0, 4), 0);
        Due.is("in", x.ofRide(0, 5), 1);
        Due.is("CAME", x.ofRide(0, 6), 300);
        Due.is("GAIN of one that is in", x.ofRide(0, 7), x.steep(300, 300) / 50 + 99);
    }

    private static void gains() {
        java.util.Random random = new java.util.Random(11);
        for (int round = 0; round < 1500; round++) {
            GorgeWire x = new GorgeWire();
            Due.text(x, 1, "1");
            int span = 20 + random.nextInt(381);
            int warm = random.nextInt(5) - 2;
            int wind = random.nextInt(41) - 20;
            x.wire(0, span);
            x.wire(1, random.nextInt(199) - 99);
            x.wire(2, 100 + random.nextInt(9900));
            x.wire(3, 1 + random.nextInt(99));
            x.wire(4, warm);
            x.wire(7, wind);
            int kind = random.nextInt(7);
            int weight = 1 + random.nextInt(300);
            int m = random.nextInt(100);
            x.ride(kind, weight, m);
            int place = random.nextInt(4) == 0 ? 8 * span - 1 + random.nextInt(2) : random.nextInt(10 * span + 1);
            int pace = random.nextInt(4) == 0 ? m + random.nextInt(4) - 1 : random.nextInt(601) - 300;
            x.start(0, place, pace);
            int due = x.steep(place / 10, weight) / 50;
            boolean rolls = kind == 1 || kind == 3 || kind == 5;
            due += rolls && warm > 0 ? 1 : 0;
            due += kind == 2 || kind == 6 ? m : 0;
            due += kind == 4 ? wind : 0;
            boolean brakes = kind == 3 || kind == 5 && place >= 8 * span;
            due -= brakes && pace > m ? (pace - m) / 2 : 0;
            Due.is("GAIN of KIND " + kind + " at " + place + " of " + span + " by " + pace + ", m " + m,
                    x.ofRide(0, 7), due);
        }
    }

    private static void rubs() {
        GorgeWire x = new GorgeWire();
        for (int kind = 0; kind < 7; kind++) {
            x.ride(kind, 1, 0);
        }
        for (int rub : new int[] {0, 1, 7, 99}) {
            x.wire(6, rub);
            for (int kind = 0; kind < 7; kind++) {
                Due.is("RUBS of KIND " + kind, x.ofRide(kind, 8), kind == 6 ? rub / 2 : rub);
            }
        }
    }

    private static void kinds() {
        GorgeWire x = new GorgeWire();
        for (int kind = 0; kind < 7; kind++) {
            x.ride(kind, 10 + kind, 0);
        }
        int unlike = 0;
        for (int ride = 0; ride < 7; ride++) {
            for (int kind = 0; kind < 7; kind++) {
                boolean is = false;
                for (int up = ride; up >= 0; up = ABOVE[up]) {
                    is |= up == kind;
                }
                unlike += is ? 0 : 1;
                Due.is("as(" + ride + ", " + kind + ")", x.as(ride, kind), is ? 10 + ride : Due.KIND);
            }
        }
        Due.is("told(5)", x.told(5), unlike);
        Due.is("as(0, 7)", x.as(0, 7), Due.BEYOND);
        Due.is("as(0, -1)", x.as(0, -1), Due.BEYOND);
        Due.is("as(7, 0)", x.as(7, 0), Due.BEYOND);
        Due.is("as(-1, 0)", x.as(-1, 0), Due.BEYOND);
    }

    private static void starts() {
        GorgeWire x = new GorgeWire();
        x.ride(2, 10, 99);
        Due.is("start(0, 3000, 300)", x.start(0, 3000, 300), 0);
        Due.is("start(0, 3001, 0)", x.start(0, 3001, 0), Due.BEYOND);
        Due.is("start(0, -1, 0)", x.start(0, -1, 0), Due.BEYOND);
        Due.is("start(0, 0, 301)", x.start(0, 0, 301), Due.BEYOND);
        Due.is("start(0, 0, -301)", x.start(0, 0, -301), Due.BEYOND);
        Due.is("start(1, 0, 0)", x.start(1, 0, 0), Due.BEYOND);
        Due.is("start(-1, 0, 0)", x.start(-1, 0, 0), Due.BEYOND);
        Due.is("PLACE stayed", x.ofRide(0, 3), 3000);
        Due.is("PACE stayed", x.ofRide(0, 4), 300);
        x.ticks(1);
        Due.is("in", x.ofRide(0, 5), 1);
        int came = x.ofRide(0, 6);
        Due.is("CAME", came, 300);
        Due.is("start(0, 17, -300)", x.start(0, 17, -300), 3000);
        Due.is("under way", x.ofRide(0, 5), 0);
        Due.is("CAME stays", x.ofRide(0, 6), came);
        Due.is("PLACE", x.ofRide(0, 3), 17);
        Due.is("PACE", x.ofRide(0, 4), -300);
        x.wire(0, 50);
        Due.is("start(0, 501, 0)", x.start(0, 501, 0), Due.BEYOND);
        Due.is("start(0, 500, 0)", x.start(0, 500, 0), 17);
    }
}
