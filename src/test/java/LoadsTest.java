import java.util.Random;

/** Promises 26 to 29: load, unload, order, bridge. */
public final class LoadsTest {
    public static void main(String[] args) {
        bounds();
        ordersByHand();
        ordersAgainstAll();
        bridges();
        Due.end();
    }

    private static void bounds() {
        GorgeWire x = new GorgeWire();
        Due.is("unload() of none", x.unload(), 0);
        int[][] wrong = {{0, 0}, {100, 0}, {-1, 0}, {1, -1}, {1, 2}, {Integer.MIN_VALUE, 0}, {1, Integer.MAX_VALUE}};
        for (int[] w : wrong) {
            Due.is("load(" + w[0] + ", " + w[1] + ")", x.load(w[0], w[1]), Due.BEYOND);
        }
        Due.is("load(99, 1)", x.load(99, 1), 0);
        for (int i = 1; i < 5; i++) {
            Due.is("load(1, 0)", x.load(1, 0), i);
        }
        Due.is("a sixth", x.load(1, 0), Due.FULL);
        Due.is("a sixth that is beyond", x.load(0, 0), Due.BEYOND);
        Due.is("count(4)", x.count(4), 5);
        Due.is("unload()", x.unload(), 5);
        Due.is("count(4)", x.count(4), 0);
        Due.is("load(7, 0)", x.load(7, 0), 0);
        Due.is("its SIDE is its own", x.order(-1), 7);
    }

    private static void ordersByHand() {
        GorgeWire x = new GorgeWire();
        Due.is("order(-1) of none", x.order(-1), 0);
        Due.is("order(0) of none", x.order(0), Due.NONE);
        Due.is("order(-2)", x.order(-2), Due.BEYOND);
        Due.is("order(MIN)", x.order(Integer.MIN_VALUE), Due.BEYOND);
        Due.is("order(MAX)", x.order(Integer.MAX_VALUE), Due.NONE);
        x.load(10, 1);
        x.load(20, 1);
        Due.is("both from there: an empty one ahead of each", x.order(-1), 40);
        Due.is("the first of several", x.order(0), 0);
        x.load(30, 0);
        Due.is("one from here between them", x.order(-1), 65);
        Due.is("order(0)", x.order(0), 0);
        Due.is("order(1)", x.order(1), 2);
        Due.is("order(2)", x.order(2), 1);
        Due.is("order(3)", x.order(3), Due.NONE);
    }

    private static int[] first;
    private static int least;

    private static void permute(int[] times, int[] sides, int[] order, int n) {
        if (n == times.length) {
            int sheave = 0;
            int time = 0;
            for (int i : order) {
                if (sides[i] != sheave) {
                    time += 5;
                    sheave = 1 - sheave;
                }
                time += times[i];
                sheave = 1 - sheave;
            }
            if (first == null || time < least) {
                least = time;
                first = order.clone();
            }
            return;
        }
        for (int i = 0; i < times.length; i++) {
            boolean used = false;
            for (int k = 0; k < n; k++) {
                used |= order[k] == i;
            }
            if (!used) {
                order[n] = i;
                permute(times, sides, order, n + 1);
            }
        }
    }

    private static void ordersAgainstAll() {
        Random random = new Random(19);
        for (int loads = 1; loads <= 5; loads++) {
            for (int mask = 0; mask < 1 << loads; mask++) {
                GorgeWire x = new GorgeWire();
                int[] times = new int[loads];
                int[] sides = new int[loads];
                for (int i = 0; i < loads; i++) {
                    times[i] = 1 + random.nextInt(99);
                    sides[i] = mask >> i & 1;
                    x.load(times[i], sides[i]);
                }
                first = null;
                permute(times, sides, new int[loads], 0);
                Due.is("order(-1) of " + loads + ", " + mask, x.order(-1), least);
                for (int i = 0; i < loads; i++) {
                    Due.is("order(" + i + ") of " + loads + ", " + mask, x.order(i), first[i]);
                }
            }
        }
    }

    private static void bridges() {
        GorgeWire x = new GorgeWire();
        int[][] wrong = {{0, 1}, {10000, 1}, {1, 0}, {1, 100}, {-1, 1}, {1, -1}, {Integer.MIN_VALUE, 1},
            {1, Integer.MAX_VALUE}};
        for (int[] w : wrong) {
            Due.is("bridge(" + w[0] + ", " + w[1] + ")", x.bridge(w[0], w[1]), Due.BEYOND);
        }
        Due.is("told(1)", x.told(1), wrong.length);
        for (int c = 1; c <= 9999; c += c < 300 || c > 9990 ? 1 : 97) {
            x = new GorgeWire();
            for (int k : new int[] {1, 2, 7, 10, 50, 98, 99}) {
                int n = 0;
                while (n * k < c) {
                    n++;
                }
                Due.is("bridge(" + c + ", " + k + ")", x.bridge(c, k), n);
            }
        }
    }
}
