import java.util.function.Supplier;
import java.util.function.ToIntFunction;

/** What the tests of edges share: calls that are refused or taken, and the ends of what an argument may be. */
final class Edge {
    /** A call with one argument left open. */
    interface Call {
        int with(GorgeWire x, int v);
    }

    private Edge() {
    }

    /** The call answers the ERROR, told() counts it once, and nothing else is changed. */
    static void refused(String call, int error, Supplier<GorgeWire> maker, ToIntFunction<GorgeWire> act) {
        GorgeWire x = maker.get();
        GorgeWire twin = maker.get();
        Due.is(call, act.applyAsInt(x), error);
        for (int k = 1; k <= 5; k++) {
            Due.is(call + ": told(" + k + ")", x.told(k), twin.told(k) + (error == Due.LOW - k ? 1 : 0));
        }
        same(call + " changes nothing", x, twin);
    }

    /** The call answers what is due, and told() counts no ERROR, whatever number that is. */
    static void taken(String call, int due, Supplier<GorgeWire> maker, ToIntFunction<GorgeWire> act) {
        GorgeWire x = maker.get();
        Due.is(call, act.applyAsInt(x), due);
        noError(call, x, maker.get());
    }

    /** The call answers no ERROR and changes nothing. */
    static void onlyLooks(String call, Supplier<GorgeWire> maker, ToIntFunction<GorgeWire> act) {
        GorgeWire x = maker.get();
        GorgeWire twin = maker.get();
        act.applyAsInt(x);
        noError(call, x, twin);
        same(call + " changes nothing", x, twin);
    }

    /** Of one argument both ends are taken; what is next to them, and the ends of the ints, are refused. */
    static void ends(String call, int least, int greatest, Supplier<GorgeWire> maker, Call act) {
        ends(call, least, greatest, new int[] {Due.BEYOND, Due.BEYOND}, maker, act);
    }

    /** Likewise, with the ERRORS of what is below and of what is above. */
    static void ends(String call, int least, int greatest, int[] errors, Supplier<GorgeWire> maker, Call act) {
        for (int v : new int[] {least, greatest}) {
            GorgeWire x = maker.get();
            act.with(x, v);
            noError(call + " by " + v, x, maker.get());
        }
        for (int v : new int[] {least - 1, Integer.MIN_VALUE}) {
            refused(call + " by " + v, errors[0], maker, x -> act.with(x, v));
        }
        for (int v : new int[] {greatest + 1, Integer.MAX_VALUE}) {
            refused(call + " by " + v, errors[1], maker, x -> act.with(x, v));
        }
    }

    /** Two objects tell alike, but for what told() tells; both are spoilt by this. */
    static void same(String what, GorgeWire x, GorgeWire twin) {
        String got = Whole.told(x);
        String due = Whole.told(twin);
        Due.is(what + ": " + got + " | " + due, got.equals(due) ? 1 : 0, 1);
    }

    private static void noError(String call, GorgeWire x, GorgeWire twin) {
        for (int k = 1; k <= 5; k++) {
            Due.is(call + " is no ERROR: told(" + k + ")", x.told(k), twin.told(k));
        }
    }
}
