import java.util.function.Supplier;

/** Terms 3 (DRAWS' z, VOICES, THE TRACE) and promises 30 to 32: each sentence that names an edge. */
public final class EdgesOfVoicesTest {
    private static final int MIN = Integer.MIN_VALUE;
    private static final int MAX = Integer.MAX_VALUE;

    public static void main(String[] args) {
        seedTakesAnyNumber();
        seedAnswersWhatItWas();
        voiceTakesRidesThatAre();
        voiceTakesFourActs();
        voiceThatIsRefusedKeepsTheTrace();
        voiceIsAnyNumber();
        voiceGoesRound();
        voiceOfTheLastRide();
        voiceChangesNothingButTheTrace();
        traceIsEmptyAtFirst();
        traceTakesThoseThatBegan();
        traceIsAsBodiesBegan();
        traceIsOfTheLatestAlone();
        traceIsFarFromForty();
        Due.end();
    }

    private static void seedTakesAnyNumber() {
        for (int v : new int[] {MIN, MAX, 0, -1, Due.LOW, Due.BEYOND, Due.NONE, Due.STATE, Due.FULL, Due.KIND}) {
            Edge.taken("seed(" + v + ")", 77, Whole::some, x -> x.seed(v));
            Supplier<GorgeWire> told = () -> {
                GorgeWire x = Whole.some();
                x.seed(v);
                return x;
            };
            Edge.taken("z was " + v, v, told, x -> x.seed(5));
            Edge.taken("z is " + v, v, told, x -> x.count(8));
        }
    }

    private static void seedAnswersWhatItWas() {
        GorgeWire x = new GorgeWire();
        Due.is("1 at first", x.seed(MIN), 1);
        Due.is("the least", x.seed(MAX), MIN);
        Due.is("the greatest", x.seed(0), MAX);
        x.gusts(1);
        Due.is("a draw's", x.seed(0), 12345);
    }

    private static void voiceTakesRidesThatAre() {
        Edge.refused("voice(0, 0, 0) of none", Due.BEYOND, Whole::fresh, x -> x.voice(0, 0, 0));
        Edge.ends("voice(ride, 3, 9)", 0, 4, Whole::some, (x, v) -> x.voice(v, 3, 9));
        Edge.ends("voice(ride, 3, 9)", 0, 7, Whole::full, (x, v) -> x.voice(v, 3, 9));
    }

    private static void voiceTakesFourActs() {
        Edge.ends("voice(2, act, 9)", 0, 3, Whole::some, (x, v) -> x.voice(2, v, 9));
    }

    private static void voiceThatIsRefusedKeepsTheTrace() {
        GorgeWire x = Whole.some();
        int began = x.count(7);
        Due.is("some began", began, 9);
        x.voice(5, 0, 0);
        x.voice(0, 4, 0);
        Due.is("as many", x.count(7), began);
        Due.is("the first", x.trace(0), 13);
    }

    private static GorgeWire one(int kind, int m) {
        GorgeWire x = new GorgeWire();
        x.ride(0, 1, 0);
        x.ride(kind, 1, m);
        return x;
    }

    private static void voiceIsAnyNumber() {
        for (int k = 0; k <= 6; k++) {
            int v = Due.LOW - k;
            Edge.taken("hangs of " + v, v, () -> one(0, 0), x -> x.voice(0, 0, v));
            Edge.taken("bears of " + v, v, () -> one(0, 0), x -> x.voice(0, 2, v));
        }
    }

    private static void voiceGoesRound() {
        Due.is("RIDE hangs MAX + 1", one(0, 0).voice(1, 0, MAX), MIN);
        Due.is("RIDE rolls (MAX + 1) * 2", one(0, 0).voice(1, 1, MAX), 0);
        Due.is("RIDE rolls (2 to the 30th) * 2", one(0, 0).voice(1, 1, (1 << 30) - 1), MIN);
        Due.is("RIDE bears MIN - 99", one(0, 99).voice(1, 2, MIN), MAX - 98);
        // (MIN + 1) * 2 is 2, MIN - 99 is MAX - 98.
        Due.is("RIDE wears MIN", one(0, 99).voice(1, 3, MIN), 2 ^ (MAX - 98));
        // 2 less (1 - 99).
        Due.is("ROLLED rolls MIN", one(1, 99).voice(1, 1, MIN), 2 + 98);
        // (MIN + 1) * 3 is MIN + 3.
        Due.is("HAULED hangs MIN", one(2, 0).voice(1, 0, MIN), MIN + 3);
        // -(MIN - 0) is MIN.
        Due.is("BRAKED bears MIN", one(3, 0).voice(1, 2, MIN), MIN);
        Due.is("BRAKED bears MIN + 98, m 99", one(3, 99).voice(1, 2, MIN + 98), MIN + 1);
        // rolls 2 ^ bears MIN is MIN + 2; less hangs(2), which is 3.
        Due.is("WINDY wears MIN", one(4, 0).voice(1, 3, MIN), MAX);
        // 2 less bears(1), which is -(1 - 0); ^ 1.
        Due.is("LATE rolls MIN", one(5, 0).voice(1, 1, MIN), 3 ^ 1);
        // hangs(MAX): (MAX + 1 + 1) * 3.
        Due.is("GREASED hangs MAX", one(6, 0).voice(1, 0, MAX), MIN + 3);
        // rolls: (MIN + 3) * 2 is 6; less (6 ^ MAX), which is MAX - 6.
        Due.is("GREASED wears MAX", one(6, 0).voice(1, 3, MAX), 6 - (MAX - 6));
    }

    private static void voiceOfTheLastRide() {
        GorgeWire x = new GorgeWire();
        for (int i = 0; i < 8; i++) {
            x.ride(0, 1, 0);
        }
        Due.is("n is 7", x.voice(7, 0, 0), 7);
        Due.is("n is 0", x.voice(0, 0, 0), 0);
    }

    private static void voiceChangesNothingButTheTrace() {
        // RIDE 3's wears(5) is the latest voice() of the object: THE TRACE is the same, too.
        Edge.onlyLooks("voice(3, 3, 5)", Whole::some, x -> x.voice(3, 3, 5));
        Edge.onlyLooks("trace(0)", Whole::some, x -> x.trace(0));
    }

    private static void traceIsEmptyAtFirst() {
        for (int i : new int[] {MIN, -1, 0, 1, 39, 40, MAX}) {
            Edge.refused("trace(" + i + ")", Due.NONE, Whole::fresh, x -> x.trace(i));
        }
    }

    private static void traceTakesThoseThatBegan() {
        int[] errors = {Due.NONE, Due.NONE};
        Edge.ends("trace(i)", 0, 8, errors, Whole::some, GorgeWire::trace);
        // LATE: wears 13 of rolls 60 (20 (11 (10) and bears 40 (12))) and of bears 40 (12).
        int[] due = {13, 60, 20, 11, 10, 40, 12, 40, 12};
        GorgeWire x = Whole.some();
        for (int i = 0; i < due.length; i++) {
            Due.is("trace(" + i + ")", x.trace(i), due[i]);
        }
        Due.is("BODIES", x.count(7), due.length);
    }

    private static void traceIsAsBodiesBegan() {
        GorgeWire x = one(4, 0);
        x.voice(1, 3, 0);
        // WINDY: wears 50 of 13 (11 (10) and 12), and of hangs 10 behind that.
        int[] due = {50, 13, 11, 10, 12, 10};
        for (int i = 0; i < due.length; i++) {
            Due.is("trace(" + i + ")", x.trace(i), due[i]);
        }
        Due.is("behind the last", x.trace(due.length), Due.NONE);
    }

    private static void traceIsOfTheLatestAlone() {
        GorgeWire x = Whole.some();
        x.voice(0, 2, 0);
        Due.is("BODIES", x.count(7), 1);
        Due.is("trace(0)", x.trace(0), 12);
        Due.is("trace(1)", x.trace(1), Due.NONE);
    }

    private static void traceIsFarFromForty() {
        int most = 0;
        for (int kind = 0; kind < 7; kind++) {
            for (int act = 0; act < 4; act++) {
                GorgeWire x = one(kind, 0);
                x.voice(1, act, 0);
                most = Math.max(most, x.count(7));
            }
        }
        // GREASED wears: 71; 11, 70, 30, 10; 13; 11, 70, 30, 10; 12.
        Due.is("the longest TRACE", most, 11);
        GorgeWire x = one(6, 0);
        x.voice(1, 3, 0);
        int[] due = {71, 11, 70, 30, 10, 13, 11, 70, 30, 10, 12};
        for (int i = 0; i < due.length; i++) {
            Due.is("trace(" + i + ")", x.trace(i), due[i]);
        }
    }
}
