import java.util.Random;

/** Promises 17 to 22: then, strands, stands, comes, snug, lower. */
public final class AheadTest {
    public static void main(String[] args) {
        bounds();
        aheadIsAsTicks();
        standsAndComesAsTicksTell();
        snugAndLowerAsTriesTell();
        nothingIsChanged();
        states();
        Due.end();
    }

    private static GorgeWire three() {
        GorgeWire x = new GorgeWire();
        x.ride(0, 150, 0);
        x.ride(2, 100, 20);
        x.ride(5, 120, 10);
        return x;
    }

    private static void bounds() {
        GorgeWire x = three();
        int[][] wrong = {{-1, 0, 0}, {201, 0, 0}, {0, 3, 0}, {0, -1, 0}, {0, 0, 9}, {0, 0, -1},
            {Integer.MIN_VALUE, 0, 0}, {0, Integer.MAX_VALUE, 0}, {0, 0, Integer.MIN_VALUE}};
        for (int[] w : wrong) {
            Due.is("then(" + w[0] + ", " + w[1] + ", " + w[2] + ")", x.then(w[0], w[1], w[2]), Due.BEYOND);
        }
        Due.is("then(0, 0, 1)", x.then(0, 0, 1), 150);
        Due.is("then(200, 1, 5)", x.then(200, 1, 5), 1);
        Due.is("strands(-1)", x.strands(-1), Due.BEYOND);
        Due.is("strands(201)", x.strands(201), Due.BEYOND);
        Due.is("strands(200)", x.strands(200), 98);
        for (int ride : new int[] {-1, 3, Integer.MIN_VALUE, Integer.MAX_VALUE}) {
            Due.is("stands(" + ride + ")", x.stands(ride), Due.BEYOND);
            Due.is("comes(" + ride + ")", x.comes(ride), Due.BEYOND);
            Due.is("snug(" + ride + ", 1, 1)", x.snug(ride, 1, 1), Due.BEYOND);
            Due.is("lower(" + ride + ", 1)", x.lower(ride, 1), Due.BEYOND);
        }
        int[][] tries = {{0, 1}, {61, 1}, {-1, 1}, {1, 0}, {1, 301}, {1, -1}};
        for (int[] t : tries) {
            Due.is("snug(1, " + t[0] + ", " + t[1] + ")", x.snug(1, t[0], t[1]), Due.BEYOND);
        }
        Due.is("lower(1, 0)", x.lower(1, 0), Due.BEYOND);
        Due.is("lower(1, 61)", x.lower(1, 61), Due.BEYOND);
        Due.is("told(1)", x.told(1), wrong.length + 2 + 16 + tries.length + 2);
    }

    /** A new object by a number: the same number makes the same one. */
    private static GorgeWire made(int number, int rides) {
        Random random = new Random(number);
        GorgeWire x = new GorgeWire();
        Due.text(x, 1, "1");
        Due.text(x, 0, "w/9+p/50+s%3");
        int span = 20 + random.nextInt(number % 2 == 0 ? 40 : 381);
        x.wire(0, span);
        x.wire(1, random.nextInt(199) - 99);
        x.wire(2, 100 + random.nextInt(9900));
        x.wire(3, 1 + random.nextInt(number % 3 == 0 ? 99 : 12));
        x.wire(4, random.nextInt(81) - 40);
        x.wire(6, random.nextInt(number % 5 == 0 ? 100 : 6));
        x.wire(7, random.nextInt(41) - 20);
        x.wire(8, random.nextInt(1000));
        for (int i = 0; i < rides; i++) {
            x.ride(random.nextInt(7), 1 + random.nextInt(300), random.nextInt(100));
            if (random.nextInt(3) > 0) {
                x.start(i, random.nextInt(10 * span + 1), random.nextInt(601) - 300);
            }
        }
        return x;
    }

    private static void aheadIsAsTicks() {
        for (int number = 0; number < 150; number++) {
            GorgeWire x = made(number, 1 + number % 8);
            for (int n : new int[] {0, 1, 2, 9, 60, 200}) {
                GorgeWire y = made(number, 1 + number % 8);
                if (n > 0) {
                    y.ticks(n);
                }
                Due.is("strands(" + n + ")", x.strands(n), y.strands(0));
                for (int what = 0; what <= 8; what++) {
                    int ride = (what + n) % (1 + number % 8);
                    Due.is("then(" + n + ", " + ride + ", " + what + ") of " + number,
                            x.then(n, ride, what), y.ofRide(ride, what));
                }
            }
        }
    }

    private static void standsAndComesAsTicksTell() {
        int stood = 0;
        int came = 0;
        for (int number = 0; number < 600; number++) {
            GorgeWire x = made(number, 1);
            GorgeWire y = made(number, 1);
            int stands = Due.NONE;
            int comes = Due.NONE;
            int place = y.ofRide(0, 3);
            int pace = y.ofRide(0, 4);
            for (int n = 1; n <= 200; n++) {
                if (n == 101) {
                    // One object alone would be given more than 512 calls.
                    y = made(number, 1);
                    y.ticks(100);
                }
                y.ticks(1);
                boolean in = y.ofRide(0, 5) == 1;
                int placeWas = place;
                int paceWas = pace;
                place = y.ofRide(0, 3);
                pace = y.ofRide(0, 4);
                boolean same = place == placeWas && pace == paceWas;
                stands = stands == Due.NONE && !in && same ? n : stands;
                comes = comes == Due.NONE && in ? n : comes;
            }
            stood += stands > 0 ? 1 : 0;
            came += comes > 0 ? 1 : 0;
            Due.is("stands(0) of " + number, x.stands(0), stands);
            Due.is("comes(0) of " + number, x.comes(0), comes);
        }
        Due.is("some stood, some came", stood > 20 && came > 20 ? 1 : 0, 1);
        GorgeWire x = new GorgeWire();
        x.wire(2, 9999);
        x.wire(1, 1);
        x.wire(6, 0);
        x.wire(3, 1);
        x.ride(0, 1, 0);
        x.start(0, 0, 15);
        Due.is("GAIN 0", x.ofRide(0, 7), 0);
        Due.is("in the last TICK", x.comes(0), 200);
        x.start(0, 0, 14);
        Due.is("a TICK too late", x.comes(0), Due.NONE);
        Due.is("it never stands", x.stands(0), Due.NONE);
        x.start(0, 5, -1);
        Due.is("stands at PLACE 0", x.stands(0), 7);
        x.start(0, 198, -1);
        Due.is("stands behind the last TICK", x.stands(0), 200);
        x.start(0, 199, -1);
        Due.is("stands a TICK too late", x.stands(0), Due.NONE);
    }

    private static void snugAndLowerAsTriesTell() {
        int snugs = 0;
        int lowers = 0;
        for (int number = 0; number < 60; number++) {
            for (int n : new int[] {1, 7, 25, 60}) {
                int q = new int[] {300, 120, 60, 299, 1}[(number + n) % 5];
                int snug = Due.NONE;
                GorgeWire y = made(number, 1);
                for (int pull = 100; pull <= 9900 && snug == Due.NONE; pull += 100) {
                    y.wire(2, pull);
                    int comes = y.comes(0);
                    snug = comes > 0 && comes <= n && y.then(comes, 0, 6) <= q ? pull : snug;
                }
                int lower = Due.NONE;
                y = made(number, 1);
                for (int drop = -99; drop <= 99 && lower == Due.NONE; drop++) {
                    y.wire(1, drop);
                    int comes = y.comes(0);
                    lower = comes > 0 && comes <= n ? drop : lower;
                }
                snugs += snug > 0 ? 1 : 0;
                lowers += lower > -99 ? 1 : 0;
                GorgeWire x = made(number, 1);
                Due.is("snug(0, " + n + ", " + q + ") of " + number, x.snug(0, n, q), snug);
                Due.is("lower(0, " + n + ") of " + number, x.lower(0, n), lower);
            }
        }
        Due.is("some are snug, some lower", snugs > 10 && lowers > 10 ? 1 : 0, 1);
    }

    private static void nothingIsChanged() {
        for (int number = 0; number < 20; number++) {
            GorgeWire x = made(number, 4);
            GorgeWire y = made(number, 4);
            x.then(200, 3, 7);
            x.strands(200);
            for (int ride = 0; ride < 4; ride++) {
                x.stands(ride);
                x.comes(ride);
                x.snug(ride, 60, 50);
                x.lower(ride, 60);
            }
            x.check(200);
            for (int ride = 0; ride < 4; ride++) {
                for (int what = 0; what <= 8; what++) {
                    Due.is("ofRide(" + ride + ", " + what + ")", x.ofRide(ride, what), y.ofRide(ride, what));
                }
            }
            for (int what = 0; what <= 8; what++) {
                Due.is("count(" + what + ")", x.count(what), y.count(what));
                Due.is("wire(" + what + ")", x.wire(what, 20), y.wire(what, 20));
            }
        }
    }

    private static void states() {
        GorgeWire x = three();
        x.ticks(200);
        Due.is("the second is in", x.ofRide(1, 5), 1);
        Due.is("stands(1)", x.stands(1), Due.NONE);
        Due.is("comes(1)", x.comes(1), Due.STATE);
        Due.is("snug(1, 60, 300)", x.snug(1, 60, 300), Due.STATE);
        Due.is("lower(1, 60)", x.lower(1, 60), Due.STATE);
        Due.is("snug(1, 61, 300)", x.snug(1, 61, 300), Due.BEYOND);
        Due.is("snug(1, 60, 0)", x.snug(1, 60, 0), Due.BEYOND);
        Due.is("lower(1, 61)", x.lower(1, 61), Due.BEYOND);
        Due.is("then(5, 1, 5)", x.then(5, 1, 5), 1);
        x.wire(3, 1);
        x.start(1, 2990, 300);
        Due.is("under way again", x.comes(1), 1);
        Due.is("snug by any PULL", x.snug(1, 1, 300), 100);
        Due.is("lower by any DROP", x.lower(1, 1), -99);
    }
}
