/** Promises 36 to 41: image, restore, tell, check, count, told. */
public final class ImagesTest {
    public static void main(String[] args) {
        imageKeepsAll();
        imageLeavesOut();
        ridesBehindAnImage();
        imageInPlaceOfOneAhead();
        tells();
        checks();
        counts();
        toldCountsEach();
        Due.end();
    }

    private static GorgeWire full() {
        GorgeWire x = new GorgeWire();
        int[] wire = {200, 20, 3000, 12, 5, 8000, 3, 4, 300};
        for (int what = 0; what < 9; what++) {
            x.wire(what, wire[what]);
        }
        x.ride(4, 120, 3);
        x.ride(6, 90, 60);
        x.ride(5, 200, 9);
        Due.text(x, 0, "w/7+p");
        Due.text(x, 1, "w*2+t");
        Due.feed(x, "w-");
        x.seed(77);
        x.line(500, 3);
        x.line(900, 20);
        x.load(7, 0);
        x.load(8, 1);
        x.load(9, 1);
        x.tell(5);
        x.tell(-6);
        x.ticks(3);
        return x;
    }

    /** All that an IMAGE keeps, as one text. */
    private static String all(GorgeWire x) {
        StringBuilder all = new StringBuilder();
        for (int what = 0; what < 9; what++) {
            all.append(what == 7 ? -1 : x.count(what)).append(' ');
        }
        for (int ride = 0; ride < x.count(1); ride++) {
            for (int what = 0; what <= 8; what++) {
                all.append(x.ofRide(ride, what)).append(' ');
            }
        }
        all.append(x.law(0, 9, 8, 7, 6)).append(' ').append(x.law(1, 9, 8, 7, 6)).append(' ');
        for (int line = 0; line < x.count(3); line++) {
            all.append(x.over(line, -1)).append(' ');
        }
        all.append(x.order(-1)).append(' ').append(x.order(0)).append(' ');
        all.append(x.tight()).append(' ').append(x.most()).append(' ').append(x.depth(11, 50)).append(' ');
        all.append(x.strands(0)).append(' ').append(x.strands(200)).append(' ');
        return all.toString();
    }

    /** What all() tells, and what can be told only by changing it: the TAPE's bytes, numbers that wait, all of THE WIRE. */
    private static String allAndMore(GorgeWire x) {
        StringBuilder all = new StringBuilder(all(x));
        x.feed('9', 1);
        all.append(x.text(1)).append(' ').append(x.law(1, 1, 2, 3, 4)).append(' ');
        all.append(x.check(0)).append(' ');
        for (int what = 1; what < 9; what++) {
            all.append(x.wire(what, what == 2 || what == 5 ? 100 : 1)).append(' ');
        }
        all.append(x.wire(0, 20));
        return all.toString();
    }

    private static void spoil(GorgeWire x) {
        int[] wire = {30, -20, 500, 99, -5, 100, 90, -4, 9};
        x.ticks(100);
        x.ride(0, 1, 1);
        for (int what = 0; what < 9; what++) {
            x.wire(what, wire[what]);
        }
        x.start(0, 1, 1);
        Due.text(x, 0, "1");
        Due.text(x, 1, "2");
        Due.feed(x, "123");
        x.seed(0);
        x.line(9999, 1);
        x.unload();
        x.load(1, 1);
        x.check(0);
        x.tell(0);
    }

    private static void imageKeepsAll() {
        GorgeWire x = full();
        String was = all(x);
        Due.is("image()", x.image(), 1);
        spoil(x);
        Due.is("it was spoilt", all(x).equals(was) ? 1 : 0, 0);
        Due.is("restore()", x.restore(), 3);
        Due.is("all is as it was", all(x).equals(was) ? 1 : 0, 1);
        spoil(x);
        Due.is("restore() again", x.restore(), 3);
        Due.is("the IMAGE stayed", allAndMore(x).equals(allAndMore(full())) ? 1 : 0, 1);
        x.restore();
        x.ticks(40);
        GorgeWire y = full();
        y.ticks(40);
        Due.is("it goes on as it would", allAndMore(x).equals(allAndMore(y)) ? 1 : 0, 1);
    }

    private static void imageLeavesOut() {
        GorgeWire x = new GorgeWire();
        Due.is("restore() of none", x.restore(), Due.NONE);
        x.ride(0, 1, 0);
        x.voice(0, 0, 0);
        x.sheet(0, 8, 1);
        x.image();
        x.voice(0, 3, 0);
        x.sheet(0, 0, 0);
        x.sheet(1, 8, 1);
        x.count(99);
        Due.is("image()", x.image(), 2);
        Due.is("restore()", x.restore(), 0);
        Due.is("THE TRACE stays", x.count(7), 4);
        Due.is("SHEETS stay", x.put(0, 0, 0), Due.NONE);
        Due.is("SHEETS stay", x.put(1, 0, 0), 1);
        Due.is("told() stays", x.told(1), 1);
        Due.is("told() stays", x.told(2), 2);
        Due.is("how often stays", x.image(), 3);
    }

    private static void ridesBehindAnImage() {
        GorgeWire x = new GorgeWire();
        x.ride(0, 10, 0);
        x.image();
        x.ride(1, 20, 0);
        x.ticks(30);
        x.restore();
        Due.is("no second RIDE", x.ofRide(1, 0), Due.BEYOND);
        Due.is("NOW", x.count(0), 0);
        Due.is("another second RIDE", x.ride(2, 30, 7), 1);
        int[] due = {2, 30, 7, 0, 0, 0, 0};
        for (int what = 0; what < due.length; what++) {
            Due.is("ofRide(1, " + what + ")", x.ofRide(1, what), due[what]);
        }
        x.restore();
        Due.is("count(1)", x.count(1), 1);
    }

    private static void imageInPlaceOfOneAhead() {
        GorgeWire x = new GorgeWire();
        x.image();
        x.ticks(5);
        Due.is("image()", x.image(), 2);
        x.ticks(5);
        Due.is("the latest", x.restore(), 5);
    }

    private static void tells() {
        GorgeWire x = new GorgeWire();
        for (int i = 1; i <= 20; i++) {
            Due.is("tell", x.tell(i), i);
        }
        Due.is("a 21st", x.tell(0), Due.FULL);
        Due.is("count(6)", x.count(6), 20);
        Due.is("check(0) without RIDES", x.check(0), 1);
        Due.is("none wait", x.count(6), 0);
        Due.is("tell", x.tell(Integer.MIN_VALUE), 1);
    }

    private static void checks() {
        GorgeWire x = new GorgeWire();
        Due.is("no RIDES, no numbers", x.check(0), 0);
        x.tell(0);
        Due.is("check(-1)", x.check(-1), Due.BEYOND);
        Due.is("none wait then, too", x.count(6), 0);
        x.tell(0);
        Due.is("check(201)", x.check(201), Due.BEYOND);
        Due.is("none wait then, too", x.count(6), 0);
        for (int n : new int[] {0, 1, 30, 200}) {
            x = eight();
            tellPlaces(x, n, 8);
            Due.is("as due, AHEAD by " + n, x.check(n), 0);
            Due.is("none wait", x.count(6), 0);
            tellPlaces(x, n, 8);
            x.tell(0);
            Due.is("one too many", x.check(n), 9);
            for (int missing = 0; missing < 8; missing++) {
                tellPlaces(x, n, missing);
                Due.is("the first missing is " + missing, x.check(n), 1 + missing);
                tellPlaces(x, n, missing);
                x.tell(-1);
                Due.is("the first wrong is " + missing, x.check(n), 1 + missing);
            }
            Due.is("no TICK went by", x.count(0), 0);
        }
    }

    private static GorgeWire eight() {
        GorgeWire x = new GorgeWire();
        for (int i = 0; i < 8; i++) {
            x.ride(i % 7, 20 * i + 1, 5 * i);
        }
        return x;
    }

    private static void tellPlaces(GorgeWire x, int n, int count) {
        for (int i = 0; i < count; i++) {
            x.tell(x.then(n, i, 3));
        }
    }

    private static void counts() {
        GorgeWire x = full();
        int[] due = {3, 3, 3, 2, 3, 2, 2, 0, 77};
        for (int what = 0; what < 9; what++) {
            Due.is("count(" + what + ")", x.count(what), due[what]);
        }
        for (int what : new int[] {-1, 9, Integer.MIN_VALUE, Integer.MAX_VALUE}) {
            Due.is("count(" + what + ")", x.count(what), Due.BEYOND);
        }
        x.ticks(200);
        Due.is("in", x.ofRide(1, 5), 1);
        int underWay = 3 - x.ofRide(0, 5) - x.ofRide(1, 5) - x.ofRide(2, 5);
        Due.is("those under way", x.count(2), underWay);
        x.start(1, 0, 0);
        Due.is("one more", x.count(2), underWay + 1);
        Due.is("voice", x.voice(1, 0, 0), 6);
        Due.is("BODIES in THE TRACE", x.count(7), 3);
        x.seed(Due.LOW - 1);
        Due.is("any number, no ERROR", x.count(8), Due.LOW - 1);
        Due.is("told(1)", x.told(1), 4);
    }

    private static void toldCountsEach() {
        GorgeWire x = new GorgeWire();
        x.wire(9, 0);
        x.restore();
        x.trace(0);
        x.sheet(0, 8, -1);
        x.sheet(0, 8, -1);
        x.sheet(0, 8, -1);
        for (int i = 0; i < 24; i++) {
            x.tell(i);
        }
        x.ride(0, 1, 1);
        for (int i = 0; i < 5; i++) {
            x.as(0, 1);
        }
        for (int k = 1; k <= 5; k++) {
            Due.is("told(" + k + ")", x.told(k), k);
        }
        for (int k : new int[] {0, 6, -1, Integer.MIN_VALUE, Integer.MAX_VALUE}) {
            Due.is("told(" + k + ")", x.told(k), Due.BEYOND);
        }
        Due.is("counted, too", x.told(1), 6);
    }
}
