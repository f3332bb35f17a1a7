import java.util.Random;

/** Promises 15 and 16: ticks, gusts. */
public final class TicksTest {
    public static void main(String[] args) {
        bounds();
        againstAModel();
        edgesOfAWay();
        wear();
        gustyTicks();
        Due.end();
    }

    private static void bounds() {
        GorgeWire x = new GorgeWire();
        for (int n : new int[] {0, -1, 201, Integer.MIN_VALUE, Integer.MAX_VALUE}) {
            Due.is("ticks(" + n + ")", x.ticks(n), Due.BEYOND);
            Due.is("gusts(" + n + ")", x.gusts(n), Due.BEYOND);
        }
        Due.is("count(0)", x.count(0), 0);
        Due.is("z stays", x.count(8), 1);
        Due.is("ticks(1)", x.ticks(1), 1);
        Due.is("ticks(200)", x.ticks(200), 201);
        x.gusts(200);
        Due.is("count(0)", x.count(0), 401);
    }

    /** One TICK by the words of the document, on rows of its own; the face tells WEAR alone. */
    private static final class Model {
        final int[] wire = {300, 10, 2000, 10, 0, 9000, 5, 0, 100};
        final int[][] rides = new int[8][];
        int count = 0;

        static final int WEIGHT = 1;
        static final int M = 2;
        static final int PLACE = 3;
        static final int PACE = 4;
        static final int IN = 5;
        static final int CAME = 6;

        long depth(long x, long load) {
            long tight = Math.max(100, wire[2] - 10 * wire[4]);
            long bow = x * (wire[0] - x);
            return 1000 * wire[1] * x / wire[0] + 500 * wire[3] * bow / tight + 1000 * load * bow / (wire[0] * tight);
        }

        int gain(int[] r) {
            int yard = Math.min(r[PLACE] / 10, wire[0] - 1);
            int base = (int) (depth(yard + 1, r[WEIGHT]) - depth(yard, r[WEIGHT])) / 50;
            int rolled = base + (wire[4] > 0 ? 1 : 0);
            int braked = rolled - (r[PACE] > r[M] ? (r[PACE] - r[M]) / 2 : 0);
            switch (r[0]) {
                case 1: return rolled;
                case 2: case 6: return base + r[M];
                case 3: return braked;
                case 4: return base + wire[7];
                case 5: return r[PLACE] < 8 * wire[0] ? rolled : braked;
                default: return base;
            }
        }

        void tick(GorgeWire x) {
            for (int i = 0; i < count; i++) {
                int[] r = rides[i];
                if (r[IN] == 1) {
                    continue;
                }
                r[PACE] += gain(r);
                int rubs = r[0] == 6 ? wire[6] / 2 : wire[6];
                for (int rub = 0; rub < rubs; rub++) {
                    r[PACE] -= Integer.signum(r[PACE]);
                }
                r[PACE] = Math.max(-300, Math.min(300, r[PACE]));
                r[PLACE] += r[PACE];
                if (r[PLACE] >= 10 * wire[0]) {
                    r[PLACE] = 10 * wire[0];
                    r[IN] = 1;
                    wire[8] = Math.max(0, wire[8] - x.law(0, r[WEIGHT], r[PACE], wire[8], 0));
                    r[CAME] = r[PACE];
                    r[PACE] = 0;
                } else if (r[PLACE] < 0) {
                    r[PLACE] = 0;
                    r[PACE] = 0;
                }
            }
        }
    }

    private static void againstAModel() {
        Random random = new Random(13);
        String[] wears = {"", "w/10", "s/7+p%13", "p/3-20", "(s%2)*9+w"};
        for (int round = 0; round < 400; round++) {
            GorgeWire x = new GorgeWire();
            Model model = new Model();
            String wear = wears[round % wears.length];
            if (!wear.isEmpty()) {
                Due.is("text", Due.text(x, 0, wear), 1);
            }
            int[] first = {20 + random.nextInt(round % 2 == 0 ? 30 : 381), random.nextInt(199) - 99,
                100 + random.nextInt(9900), 1 + random.nextInt(99), random.nextInt(81) - 40, 9000,
                random.nextInt(round % 3 == 0 ? 3 : 100), random.nextInt(41) - 20, 100 + random.nextInt(900)};
            for (int what = 0; what < 9; what++) {
                model.wire[what] = first[what];
                x.wire(what, first[what]);
            }
            model.count = random.nextInt(9);
            for (int i = 0; i < model.count; i++) {
                int[] r = {random.nextInt(7), 1 + random.nextInt(300), random.nextInt(100),
                    random.nextInt(10 * first[0] + 1), random.nextInt(601) - 300, 0, 0};
                model.rides[i] = r;
                x.ride(r[0], r[1], r[2]);
                x.start(i, r[3], r[4]);
            }
            for (int t = 1; t <= 10; t++) {
                int n = t % 5 == 0 ? 20 : 1;
                Due.is("ticks(" + n + ")", x.ticks(n), x.count(0));
                for (int k = 0; k < n; k++) {
                    model.tick(x);
                }
                compare(x, model, "round " + round + ", step " + t);
            }
        }
    }

    private static void compare(GorgeWire x, Model model, String where) {
        for (int i = 0; i < model.count; i++) {
            for (int what = Model.PLACE; what <= Model.CAME; what++) {
                Due.is("ofRide(" + i + ", " + what + "), " + where, x.ofRide(i, what), model.rides[i][what]);
            }
        }
        Due.is("strands(0), " + where, x.strands(0), model.wire[8]);
    }

    private static void edgesOfAWay() {
        GorgeWire x = new GorgeWire();
        x.wire(1, 0);
        x.wire(2, 9999);
        x.wire(3, 1);
        x.wire(6, 0);
        x.ride(0, 1, 0);
        Due.is("no GAIN", x.ofRide(0, 7), 0);
        x.start(0, 2990, 9);
        x.ticks(1);
        Due.is("a tenth ahead of the end", x.ofRide(0, 3), 2999);
        Due.is("is under way", x.ofRide(0, 5), 0);
        x.start(0, 2990, 10);
        x.ticks(1);
        Due.is("at the end", x.ofRide(0, 5), 1);
        Due.is("CAME", x.ofRide(0, 6), 10);
        x.start(0, 9, -9);
        x.ticks(1);
        Due.is("PLACE 0", x.ofRide(0, 3), 0);
        Due.is("keeps its PACE", x.ofRide(0, 4), -9);
        x.ticks(1);
        Due.is("PLACE below 0 is 0", x.ofRide(0, 3), 0);
        Due.is("PACE is 0 then", x.ofRide(0, 4), 0);
        x.start(0, 3000, 0);
        x.ticks(1);
        Due.is("one that stands at the end is in", x.ofRide(0, 5), 1);
        Due.is("CAME 0", x.ofRide(0, 6), 0);
        x.start(0, 3000, -1);
        x.ticks(1);
        Due.is("back from the end", x.ofRide(0, 3), 2999);
        x.wire(6, 7);
        x.start(0, 1000, 7);
        x.ticks(1);
        Due.is("rubbed to 0", x.ofRide(0, 4), 0);
        x.start(0, 1000, -6);
        x.ticks(1);
        Due.is("not beyond 0", x.ofRide(0, 4), 0);
        x.start(0, 1000, -8);
        x.ticks(1);
        Due.is("nearer to 0", x.ofRide(0, 4), -1);
        Due.is("PLACE by the new PACE", x.ofRide(0, 3), 999);
        x.ride(2, 1, 99);
        x.start(1, 0, 300);
        x.ticks(1);
        Due.is("held, behind the rub", x.ofRide(1, 3), 300);
    }

    private static void wear() {
        GorgeWire x = new GorgeWire();
        Due.text(x, 0, "s-p+w");
        x.wire(8, 60);
        x.ride(2, 10, 99);
        x.ride(2, 20, 99);
        x.start(0, 2999, 40);
        x.start(1, 2999, 50);
        x.ticks(1);
        int a = x.ofRide(0, 6);
        int b = x.ofRide(1, 6);
        int left = 60 - Math.max(0, Math.min(99, 60 - a + 10));
        left -= Math.max(0, Math.min(99, left - b + 20));
        Due.is("by numbers, each with the STRANDS of then", x.strands(0), Math.max(0, left));
        x.wire(8, 5);
        Due.text(x, 0, "99");
        x.start(0, 3000, 300);
        x.ticks(1);
        Due.is("0 at least", x.strands(0), 0);
        x.ticks(50);
        x.wire(8, 500);
        x.ticks(50);
        Due.is("one that is in wears no more", x.strands(0), 500);
    }

    private static void gustyTicks() {
        GorgeWire x = new GorgeWire();
        GorgeWire y = new GorgeWire();
        for (GorgeWire w : new GorgeWire[] {x, y}) {
            w.ride(4, 10, 0);
            w.ride(0, 200, 0);
            w.seed(-12345);
        }
        int z = -12345;
        int wind = 0;
        for (int n = 1; n <= 12; n++) {
            for (int i = 0; i < n; i++) {
                z = z * 1103515245 + 12345;
                wind = (z >>> 8) % 41 - 20;
                y.wire(7, wind);
                y.ticks(1);
            }
            Due.is("gusts(" + n + ")", x.gusts(n), wind);
            Due.is("z", x.count(8), z);
            Due.is("NOW", x.count(0), y.count(0));
            for (int ride = 0; ride < 2; ride++) {
                for (int what = 0; what <= 8; what++) {
                    Due.is("ofRide(" + ride + ", " + what + ")", x.ofRide(ride, what), y.ofRide(ride, what));
                }
            }
        }
    }
}
