/** Objects with something of everything, made alike each time, and all that can be told of one. */
final class Whole {
    private static final int[] WIRE = {240, 12, 2100, 11, 3, 8000, 4, 5, 300};
    private static final int[] ANY = {400, 0, 100, 1, 0, 100, 0, 0, 0};
    /** Twos of which each LINE can just pull the next one at SPAN 250; the last number of the second isn't whole. */
    private static final int[][] SHEETS = {{50, 1, 75, 2, 100, 3, 125, 4, 7, 5}, {500, 1, 750, 20, 1000, 30, 9}};

    private Whole() {
    }

    static GorgeWire fresh() {
        return new GorgeWire();
    }

    /** Full of nothing; an IMAGE without LINES stands, since which most has changed. RIDE 1 is in. */
    static GorgeWire some() {
        GorgeWire x = new GorgeWire();
        x.wire(0, 250);
        x.ride(0, 150, 7);
        x.ride(2, 100, 20);
        x.load(3, 1);
        x.tell(0);
        x.tell(0);
        Due.feed(x, "1+");
        x.image();
        for (int what = 0; what < WIRE.length; what++) {
            x.wire(what, WIRE[what]);
        }
        x.ride(3, 120, 30);
        x.ride(5, 80, 10);
        x.ride(4, 60, 0);
        Due.text(x, 0, "w/9+p/50");
        Due.text(x, 1, "w<301&s");
        x.ticks(20);
        x.start(4, 900, -40);
        x.line(600, 2);
        x.line(900, 20);
        x.line(5000, 30);
        x.load(9, 0);
        x.load(8, 1);
        Due.feed(x, "w-");
        x.seed(77);
        x.voice(3, 3, 5);
        putSheets(x);
        makeErrors(x);
        x.check(0);
        for (int ride = 0; ride < 5; ride++) {
            x.tell(x.ofRide(ride, 3));
        }
        return x;
    }

    /** As some(), with all the RIDES, LINES, LOADS, bytes and numbers that wait for which there is room. */
    static GorgeWire full() {
        GorgeWire x = some();
        for (int i = 0; i < 3; i++) {
            x.ride(6 - i, 30 + i, 4 * i);
        }
        for (int i = 0; i < 5; i++) {
            x.line(1000 + i, 20 + i);
        }
        x.load(7, 0);
        x.load(6, 1);
        for (int i = 0; i < 6; i++) {
            x.feed(0x2b772b772b772b77L, 8);
        }
        for (int i = 0; i < 15; i++) {
            x.tell(i / 3);
        }
        return x;
    }

    /** One RIDE whose GAIN is what its KIND adds alone: it hangs so little that STEEP by 50 is 0. Five calls. */
    static GorgeWire flat(int kind, int m, int rub) {
        GorgeWire x = new GorgeWire();
        x.wire(1, 0);
        x.wire(2, 9999);
        x.wire(3, 1);
        x.wire(6, rub);
        x.ride(kind, 1, m);
        return x;
    }

    private static void putSheets(GorgeWire x) {
        x.sheet(0, 8, SHEETS[0].length);
        x.sheet(1, 16, SHEETS[1].length);
        x.sheet(2, 16, 0);
        for (int sheet = 0; sheet < 2; sheet++) {
            for (int i = 0; i < SHEETS[sheet].length; i++) {
                x.put(sheet, i, SHEETS[sheet][i]);
            }
        }
    }

    /** So that no count of told() but that of FULL is 0, and no two of them are alike. */
    private static void makeErrors(GorgeWire x) {
        x.count(99);
        x.trace(99);
        x.trace(-1);
        for (int i = 0; i < 3; i++) {
            x.sheet(3, 8, -1);
        }
        for (int i = 0; i < 4; i++) {
            x.as(0, 6);
        }
    }

    /** All that can be told of an object but what told() tells; it is spoilt by this. */
    static String told(GorgeWire x) {
        StringBuilder all = new StringBuilder();
        for (int i = 0; i < x.count(7); i++) {
            all.append(x.trace(i)).append(' ');
        }
        tellImaged(x, all);
        all.append("IMAGE ").append(x.restore()).append(' ');
        tellImaged(x, all);
        all.append("SHEETS ");
        for (int sheet = 0; sheet < 4; sheet++) {
            tellSheet(x, sheet, all);
        }
        return all.append(x.image()).toString();
    }

    /** What an IMAGE keeps; THE TAPE and the numbers that wait are spent by this. */
    private static void tellImaged(GorgeWire x, StringBuilder all) {
        for (int what = 0; what <= 8; what++) {
            all.append(what == 7 ? 0 : x.count(what)).append(' ');
        }
        // A SPAN told more moves no PLACE, and neither does the one that was.
        for (int what = 0; what <= 8; what++) {
            int was = x.wire(what, ANY[what]);
            all.append(was).append(' ');
            x.wire(what, was);
        }
        for (int ride = 0; ride < x.count(1); ride++) {
            for (int what = 0; what <= 6; what++) {
                all.append(x.ofRide(ride, what)).append(' ');
            }
        }
        for (int line = 0; line < 8; line++) {
            all.append(x.over(line, -1)).append(' ');
        }
        for (int i = -1; i < 5; i++) {
            all.append(x.order(i)).append(' ');
        }
        all.append(x.law(0, 170, 120, 9, 0)).append(' ').append(x.law(1, 40, 3, 8, 20)).append(' ');
        all.append(x.check(0)).append(' ').append(x.feed('7', 1)).append(' ').append(x.text(1)).append(' ');
        all.append(x.law(1, 40, 3, 8, 20)).append(' ');
    }

    /** By the LINES that come of it; where it ends; which others are of like bits. */
    private static void tellSheet(GorgeWire x, int sheet, StringBuilder all) {
        for (int other = 0; other < 4; other++) {
            all.append(x.move(sheet, 0, other, 0, 0)).append(' ');
        }
        for (int n : new int[] {1, 6, 7, 8, 9, 10, 11}) {
            all.append(x.move(sheet, n, sheet, n, 0)).append(' ');
        }
        all.append(x.lines(sheet)).append(' ');
        for (int line = 0; line < 5; line++) {
            all.append(x.over(line, -1)).append(' ');
        }
        all.append(x.restore()).append(' ');
    }
}
