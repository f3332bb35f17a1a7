import java.util.ArrayList;
import java.util.List;
import java.util.Random;

/** Promises 30 to 32: seed, voice, trace. */
public final class VoicesTest {
    private static final int[] ABOVE = {-1, 0, 0, 1, 0, 3, 2};
    /** BODIES of KINDS by acts (hangs, rolls, bears, wears); 0: none. */
    private static final int[][] BODIES = {{10, 11, 12, 13}, {0, 20, 0, 0}, {30, 0, 0, 0}, {0, 0, 40, 0},
        {0, 0, 0, 50}, {0, 60, 0, 0}, {70, 0, 0, 71}};

    public static void main(String[] args) {
        seeds();
        bounds();
        voicesByHand();
        voicesAgainstATable();
        Due.end();
    }

    private static void seeds() {
        GorgeWire x = new GorgeWire();
        Due.is("z is 1 at first", x.seed(Integer.MIN_VALUE), 1);
        Due.is("seed(-5)", x.seed(-5), Integer.MIN_VALUE);
        Due.is("count(8)", x.count(8), -5);
        Due.is("seed(Due.LOW - 2)", x.seed(Due.LOW - 2), -5);
        Due.is("any number, no ERROR", x.seed(0), Due.LOW - 2);
        for (int k = 1; k <= 5; k++) {
            Due.is("told(" + k + ")", x.told(k), 0);
        }
    }

    private static void bounds() {
        GorgeWire x = new GorgeWire();
        Due.is("no RIDE", x.voice(0, 0, 0), Due.BEYOND);
        x.ride(0, 1, 0);
        x.voice(0, 3, 5);
        Due.is("voice(0, 4, 0)", x.voice(0, 4, 0), Due.BEYOND);
        Due.is("voice(0, -1, 0)", x.voice(0, -1, 0), Due.BEYOND);
        Due.is("voice(1, 0, 0)", x.voice(1, 0, 0), Due.BEYOND);
        Due.is("voice(-1, 0, 0)", x.voice(-1, 0, 0), Due.BEYOND);
        Due.is("THE TRACE stays", x.count(7), 4);
        Due.is("trace(3)", x.trace(3), 12);
        Due.is("trace(4)", x.trace(4), Due.NONE);
        Due.is("trace(-1)", x.trace(-1), Due.NONE);
        Due.is("trace(MIN)", x.trace(Integer.MIN_VALUE), Due.NONE);
        Due.is("trace(MAX)", x.trace(Integer.MAX_VALUE), Due.NONE);
        Due.is("voice(0, 0, LOW - 1)", x.voice(0, 0, Due.LOW - 1), Due.LOW - 1);
        Due.is("THE TRACE of the latest", x.count(7), 1);
        Due.is("any number, no ERROR", x.told(1), 5);
    }

    private static void voicesByHand() {
        GorgeWire x = new GorgeWire();
        x.ride(0, 1, 7);
        x.ride(5, 1, 10);
        // rolls(4): 60: (20: (11: (10: 4 + 1) * 2) - (40: -(12: 1 - 10))) ^ 1
        Due.is("LATE rolls", x.voice(1, 1, 4), (5 * 2 - 9) ^ 1);
        int[] trace = {60, 20, 11, 10, 40, 12};
        for (int i = 0; i < trace.length; i++) {
            Due.is("trace(" + i + ")", x.trace(i), trace[i]);
        }
        Due.is("count(7)", x.count(7), trace.length);
        Due.is("RIDE bears", x.voice(0, 2, 4), -3);
        Due.is("RIDE wears", x.voice(0, 3, 4), 8 ^ -3);
        Due.is("ints go round", x.voice(0, 1, Integer.MAX_VALUE), -2);
        Due.is("ints go round", x.voice(0, 2, Integer.MIN_VALUE), Integer.MAX_VALUE - 6);
    }

    /** The BODY of an act from a KIND on, upward; its KIND. */
    private static int kindWith(int kind, int act) {
        while (BODIES[kind][act] == 0) {
            kind = ABOVE[kind];
        }
        return kind;
    }

    private static int say(int own, int from, int act, int x, int n, int m, List<Integer> trace) {
        int kind = kindWith(from, act);
        int above = ABOVE[kind];
        trace.add(BODIES[kind][act]);
        switch (BODIES[kind][act]) {
            case 10: return x + n;
            case 11: return say(own, own, 0, x, n, m, trace) * 2;
            case 12: return x - m;
            case 13: {
                int left = say(own, own, 1, x, n, m, trace);
                return left ^ say(own, own, 2, x, n, m, trace);
            }
            case 20: {
                int left = say(own, above, 1, x, n, m, trace);
                return left - say(own, own, 2, 1, n, m, trace);
            }
            case 30: return say(own, above, 0, x, n, m, trace) * 3;
            case 40: return -say(own, above, 2, x, n, m, trace);
            case 50: {
                int left = say(own, above, 3, x, n, m, trace);
                return left - say(own, own, 0, 2, n, m, trace);
            }
            case 60: return say(own, above, 1, x, n, m, trace) ^ n;
            case 70: return say(own, above, 0, x + 1, n, m, trace);
            default: {
                int left = say(own, own, 1, x, n, m, trace);
                return left - say(own, above, 3, x, n, m, trace);
            }
        }
    }

    private static void voicesAgainstATable() {
        Random random = new Random(23);
        for (int round = 0; round < 60; round++) {
            GorgeWire x = new GorgeWire();
            int[] kinds = new int[8];
            int[] ms = new int[8];
            for (int n = 0; n < 8; n++) {
                kinds[n] = (n + round) % 7;
                ms[n] = random.nextInt(100);
                x.ride(kinds[n], 1, ms[n]);
            }
            for (int n = 0; n < 8; n++) {
                int act = (n + round / 7) % 4;
                int v = random.nextBoolean() ? random.nextInt() : random.nextInt(100) - 50;
                List<Integer> trace = new ArrayList<>();
                int due = say(kinds[n], kinds[n], act, v, n, ms[n], trace);
                Due.is("voice(" + n + ", " + act + ", " + v + ") of KIND " + kinds[n], x.voice(n, act, v), due);
                Due.is("count(7)", x.count(7), trace.size());
                for (int i = 0; i < trace.size(); i++) {
                    Due.is("trace(" + i + ")", x.trace(i), trace.get(i));
                }
                Due.is("behind the last", x.trace(trace.size()), Due.NONE);
            }
        }
    }
}
