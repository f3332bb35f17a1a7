import java.util.ArrayList;
import java.util.List;

/** The document told again, as plainly as can be and without a short cut: what GorgeWire is compared with. */
final class PlainModel {
    static final int[] LEAST = {20, -99, 100, 1, -40, 100, 0, -20, 0};
    static final int[] GREATEST = {400, 99, 9999, 99, 40, 99999, 99, 20, 999};
    private static final int[] ABOVE = {-1, 0, 0, 1, 0, 3, 2};
    private static final String[] WITHOUT = {"w/100+(p>100)", "s*5>w"};

    /** A RIDE: what ofRide() tells by 0 to 6. */
    static final int WEIGHT = 1;
    static final int M = 2;
    static final int PLACE = 3;
    static final int PACE = 4;
    static final int IN = 5;
    static final int CAME = 6;

    int[] wire = {300, 10, 2000, 10, 0, 9000, 5, 0, 100};
    List<int[]> rides = new ArrayList<>();
    List<int[]> lines = new ArrayList<>();
    List<int[]> loads = new ArrayList<>();
    List<Integer> waiting = new ArrayList<>();
    String tape = "";
    String[] texts = WITHOUT.clone();
    int now = 0;
    int z = 1;

    private final List<Integer> trace = new ArrayList<>();
    private final int[][] sheets = new int[4][];
    private final int[] bits = new int[4];
    private final int[] told = new int[6];
    private int images = 0;
    private PlainModel image = null;

    /** An ERROR by its number. */
    private static final class Refused extends RuntimeException {
        private static final long serialVersionUID = 1L;
        final int k;

        Refused(int k) {
            super(null, null, false, false);
            this.k = k;
        }
    }

    int answer(String call, long[] v) {
        try {
            return act(call, v);
        } catch (Refused refused) {
            told[refused.k]++;
            return Due.LOW - refused.k;
        }
    }

    private static void beyondUnless(boolean fine) {
        refuseUnless(fine, 1);
    }

    private static void refuseUnless(boolean fine, int k) {
        if (!fine) {
            throw new Refused(k);
        }
    }

    private static boolean in(long v, long least, long greatest) {
        return least <= v && v <= greatest;
    }

    private int[] rideOf(long ride) {
        beyondUnless(in(ride, 0, rides.size() - 1));
        return rides.get((int) ride);
    }

    private int act(String call, long[] v) {
        int a = v.length > 0 ? (int) v[0] : 0;
        int b = v.length > 1 ? (int) v[1] : 0;
        int c = v.length > 2 ? (int) v[2] : 0;
        switch (call) {
            case "wire": return wire(a, b);
            case "depth": case "steep": case "pulled": return hangs(call, a, b);
            case "most": return most();
            case "tight": return tight();
            case "ride": return ride(a, b, c);
            case "ofRide": rideOf(a); beyondUnless(in(b, 0, 8)); return fact(a, b);
            case "as": return as(rideOf(a), b);
            case "start": return start(rideOf(a), b, c);
            case "feed": return feed(v[0], b);
            case "text": return text(a);
            case "law": beyondUnless(in(a, 0, 1)); return law(a, new int[] {b, c, (int) v[3], (int) v[4]});
            case "ticks": passes(a); tick(a, false); return now;
            case "gusts": passes(a); tick(a, true); return wire[7];
            case "then": rideOf(b); beyondUnless(in(c, 0, 8)); return ahead(a).fact(b, c);
            case "strands": return ahead(a).wire[8];
            case "stands": return stands(a);
            case "comes": return comes(a);
            case "snug": beyondUnless(in(c, 1, 300)); return tried(2, 100, a, b, c);
            case "lower": return tried(1, 1, a, b, 300);
            default: return actOfOthers(call, a, b, c, v);
        }
    }

    private int actOfOthers(String call, int a, int b, int c, long[] v) {
        switch (call) {
            case "line": beyondUnless(isLine(a, b)); refuseUnless(lines.size() < 8, 4); return line(a, b);
            case "lines": return linesOf(a);
            case "over": return over(a, b);
            case "load": return load(a, b);
            case "unload": int were = loads.size(); loads.clear(); return were;
            case "order": return order(a);
            case "bridge": return bridge(a, b);
            case "seed": int was = z; z = a; return was;
            case "voice": rideOf(a); beyondUnless(in(b, 0, 3)); trace.clear(); return voice(a, "" + b, kindOf(a), c);
            case "trace": refuseUnless(in(a, 0, count(7) - 1), 2); return trace.get(a);
            case "sheet": return sheet(a, b, c);
            case "put": return put(a, b, c);
            case "move": return move(a, b, c, (int) v[3], (int) v[4]);
            case "image": image = copy(); images++; return images;
            case "restore": refuseUnless(image != null, 2); take(image); return now;
            case "tell": refuseUnless(waiting.size() < 20, 4); waiting.add(a); return waiting.size();
            case "check": return check(a);
            case "count": beyondUnless(in(a, 0, 8)); return count(a);
            case "told": beyondUnless(in(a, 1, 5)); return told[a];
            default: throw new IllegalStateException(call);
        }
    }

    // ---- what an IMAGE keeps

    private PlainModel copy() {
        PlainModel other = new PlainModel();
        other.take(this);
        return other;
    }

    private void take(PlainModel other) {
        wire = other.wire.clone();
        rides = copyOf(other.rides);
        lines = copyOf(other.lines);
        loads = copyOf(other.loads);
        waiting = new ArrayList<>(other.waiting);
        tape = other.tape;
        texts = other.texts.clone();
        now = other.now;
        z = other.z;
    }

    private static List<int[]> copyOf(List<int[]> rows) {
        List<int[]> copies = new ArrayList<>();
        for (int[] row : rows) {
            copies.add(row.clone());
        }
        return copies;
    }

    // ---- the wire

    private int wire(int what, int v) {
        beyondUnless(in(what, 0, 8));
        beyondUnless(in(v, LEAST[what], GREATEST[what]));
        int was = wire[what];
        wire[what] = v;
        for (int[] ride : rides) {
            if (ride[PLACE] > 10 * wire[0]) {
                ride[PLACE] = 10 * wire[0];
            }
        }
        return was;
    }

    private int hangs(String call, int x, int load) {
        beyondUnless(in(x, 0, wire[0]) && in(load, 0, 300));
        return (int) (call.equals("depth") ? depth(x, load) : call.equals("steep") ? steep(x, load) : pulled(x, load));
    }

    private int tight() {
        return Math.max(100, wire[2] - 10 * wire[4]);
    }

    private long depth(long x, long load) {
        long span = wire[0];
        return 1000 * wire[1] * x / span + 500 * wire[3] * x * (span - x) / tight()
                + 1000 * load * x * (span - x) / (span * tight());
    }

    private long steep(long x, long load) {
        return x == wire[0] ? steep(x - 1, load) : depth(x + 1, load) - depth(x, load);
    }

    private long pulled(long x, long load) {
        return tight() + 4 * load * x * (wire[0] - x) / ((long) wire[0] * wire[0]);
    }

    private int most() {
        int most = -1;
        for (int load = 0; load <= 300; load++) {
            boolean holds = true;
            for (int x = 0; x <= wire[0]; x++) {
                holds &= pulled(x, load) <= wire[5];
            }
            most = holds ? load : most;
        }
        refuseUnless(most >= 0, 2);
        return most;
    }

    // ---- rides

    private int ride(int kind, int weight, int m) {
        beyondUnless(in(kind, 0, 6) && in(weight, 1, 300) && in(m, 0, 99));
        refuseUnless(law(1, new int[] {weight, wire[7], wire[8], now}) != 0, 3);
        refuseUnless(rides.size() < 8, 4);
        rides.add(new int[] {kind, weight, m, 0, 0, 0, 0});
        return rides.size() - 1;
    }

    private int kindOf(int ride) {
        return rides.get(ride)[0];
    }

    private int fact(int ride, int what) {
        int[] row = rides.get(ride);
        return what == 7 ? gain(row, row[0]) : what == 8 ? rubs(row) : row[what];
    }

    private int gain(int[] ride, int kind) {
        switch (kind) {
            case 0: return (int) (steep(ride[PLACE] / 10, ride[WEIGHT]) / 50);
            case 1: return gain(ride, 0) + (wire[4] > 0 ? 1 : 0);
            case 2: return gain(ride, 0) + ride[M];
            case 3: return gain(ride, 1) - (ride[PACE] > ride[M] ? (ride[PACE] - ride[M]) / 2 : 0);
            case 4: return gain(ride, 0) + wire[7];
            case 5: return ride[PLACE] < 8 * wire[0] ? gain(ride, 1) : gain(ride, 3);
            default: return gain(ride, 2);
        }
    }

    private int rubs(int[] ride) {
        return ride[0] == 6 ? wire[6] / 2 : wire[6];
    }

    private int as(int[] ride, int kind) {
        beyondUnless(in(kind, 0, 6));
        int of = ride[0];
        while (of >= 0 && of != kind) {
            of = ABOVE[of];
        }
        refuseUnless(of == kind, 5);
        return ride[WEIGHT];
    }

    private int start(int[] ride, int place, int pace) {
        beyondUnless(in(place, 0, 10 * wire[0]) && in(pace, -300, 300));
        int was = ride[PLACE];
        ride[PLACE] = place;
        ride[PACE] = pace;
        ride[IN] = 0;
        return was;
    }

    // ---- texts, ticks

    private int feed(long word, int n) {
        beyondUnless(in(n, 1, 8));
        refuseUnless(tape.length() + n <= 50, 4);
        for (int i = 0; i < n; i++) {
            tape += (char) (word & 255);
            word >>= 8;
        }
        return tape.length();
    }

    private int text(int use) {
        beyondUnless(in(use, 0, 1));
        int fault = new PlainText(use, new int[4]).fault(tape);
        texts[use] = fault < 0 ? tape : texts[use];
        tape = "";
        return fault < 0 ? 1 : -10 - fault;
    }

    private int law(int use, int[] values) {
        int worth = new PlainText(use, values).worth(texts[use]);
        return use == 1 ? worth : worth < 0 ? 0 : worth > 99 ? 99 : worth;
    }

    private void passes(int n) {
        beyondUnless(in(n, 1, 200));
        refuseUnless(now + n <= 99999, 3);
    }

    private void tick(int n, boolean gusty) {
        for (int i = 0; i < n; i++) {
            if (gusty) {
                z = z * 1103515245 + 12345;
                wire[7] = (z >>> 8) % 41 - 20;
            }
            for (int[] ride : rides) {
                if (ride[IN] == 0) {
                    goOn(ride);
                }
            }
            now++;
        }
    }

    private void goOn(int[] ride) {
        ride[PACE] += gain(ride, ride[0]);
        for (int i = rubs(ride); i > 0 && ride[PACE] != 0; i--) {
            ride[PACE] -= ride[PACE] > 0 ? 1 : -1;
        }
        ride[PACE] = ride[PACE] > 300 ? 300 : ride[PACE] < -300 ? -300 : ride[PACE];
        ride[PLACE] += ride[PACE];
        if (ride[PLACE] >= 10 * wire[0]) {
            ride[PLACE] = 10 * wire[0];
            ride[IN] = 1;
            wire[8] = Math.max(0, wire[8] - law(0, new int[] {ride[WEIGHT], ride[PACE], wire[8], 0}));
            ride[CAME] = ride[PACE];
            ride[PACE] = 0;
        }
        if (ride[PLACE] < 0) {
            ride[PLACE] = 0;
            ride[PACE] = 0;
        }
    }

    // ---- ahead

    PlainModel ahead(int n) {
        beyondUnless(in(n, 0, 200));
        PlainModel then = copy();
        then.tick(n, false);
        return then;
    }

    private int stands(int ride) {
        rideOf(ride);
        PlainModel then = copy();
        for (int n = 1; n <= 200; n++) {
            int[] was = then.rides.get(ride).clone();
            then.tick(1, false);
            int[] is = then.rides.get(ride);
            if (is[IN] == 0 && is[PLACE] == was[PLACE] && is[PACE] == was[PACE]) {
                return n;
            }
        }
        throw new Refused(2);
    }

    private int comes(int ride) {
        refuseUnless(rideOf(ride)[IN] == 0, 3);
        int n = copy().comesIn(ride, 200);
        refuseUnless(n > 0, 2);
        return n;
    }

    /** 0: not in so many TICKS. */
    private int comesIn(int ride, int most) {
        for (int n = 1; n <= most; n++) {
            tick(1, false);
            if (rides.get(ride)[IN] == 1) {
                return n;
            }
        }
        return 0;
    }

    private int tried(int what, int step, int ride, int n, int q) {
        beyondUnless(in(n, 1, 60));
        refuseUnless(rideOf(ride)[IN] == 0, 3);
        for (int v = LEAST[what]; v <= (what == 2 ? 9900 : 99); v += step) {
            PlainModel then = copy();
            then.wire[what] = v;
            if (then.comesIn(ride, n) > 0 && then.rides.get(ride)[CAME] <= q) {
                return v;
            }
        }
        throw new Refused(2);
    }

    // ---- lines, loads

    private static boolean isLine(int strong, int thick) {
        return in(strong, 1, 9999) && in(thick, 1, 999);
    }

    private int line(int strong, int thick) {
        lines.add(new int[] {strong, thick});
        return lines.size() - 1;
    }

    private int linesOf(int sheet) {
        int[] row = sheetOf(sheet);
        int came = 0;
        for (int i = 0; i + 2 <= row.length; i += 2) {
            if (!isLine(row[i], row[i + 1]) || lines.size() == 8) {
                break;
            }
            line(row[i], row[i + 1]);
            came++;
        }
        return came;
    }

    private int over(int line, int i) {
        beyondUnless(in(line, 0, lines.size() - 1) && i >= -1);
        for (int most = 1; most <= lines.size(); most++) {
            List<Integer> row = new ArrayList<>(List.of(0));
            if (goesOver(row, line, most)) {
                refuseUnless(i < most, 2);
                return i == -1 ? most : row.get(i);
            }
        }
        throw new Refused(2);
    }

    /** Rows of just so many, by numbers; the first one stays in row. */
    private boolean goesOver(List<Integer> row, int line, int many) {
        int last = row.get(row.size() - 1);
        if (row.size() == many) {
            return last == line;
        }
        for (int next = 0; next < lines.size(); next++) {
            if (!row.contains(next) && lines.get(next)[1] * wire[0] / 10 <= lines.get(last)[0]) {
                row.add(next);
                if (goesOver(row, line, many)) {
                    return true;
                }
                row.remove(row.size() - 1);
            }
        }
        return false;
    }

    private int load(int time, int side) {
        beyondUnless(in(time, 1, 99) && in(side, 0, 1));
        refuseUnless(loads.size() < 5, 4);
        loads.add(new int[] {time, side});
        return loads.size() - 1;
    }

    private int order(int i) {
        beyondUnless(i >= -1);
        refuseUnless(i < loads.size(), 2);
        List<Integer> best = leastOf(new ArrayList<>());
        return i == -1 ? timeOf(best) : best.get(i);
    }

    private List<Integer> leastOf(List<Integer> begun) {
        List<Integer> best = begun.size() == loads.size() ? begun : null;
        for (int next = 0; next < loads.size(); next++) {
            if (!begun.contains(next)) {
                List<Integer> longer = new ArrayList<>(begun);
                longer.add(next);
                List<Integer> whole = leastOf(longer);
                best = best == null || timeOf(whole) < timeOf(best) ? whole : best;
            }
        }
        return best;
    }

    private int timeOf(List<Integer> order) {
        int time = 0;
        int sheave = 0;
        for (int next : order) {
            time += sheave == loads.get(next)[1] ? 0 : 5;
            time += loads.get(next)[0];
            sheave = loads.get(next)[1] == 0 ? 1 : 0;
        }
        return time;
    }

    private static int bridge(int c, int k) {
        beyondUnless(in(c, 1, 9999) && in(k, 1, 99));
        int crossings = 0;
        while (k * crossings < c) {
            crossings++;
        }
        return crossings;
    }

    // ---- voices, sheets, what is told

    /** A VOICE of a RIDE as a KIND (or one above it) has it. */
    private int voice(int ride, String act, int kind, int x) {
        int own = kindOf(ride);
        int m = rides.get(ride)[M];
        switch (kind + " " + act) {
            case "0 0": began(10); return x + ride;
            case "0 1": began(11); return voice(ride, "0", own, x) * 2;
            case "0 2": began(12); return x - m;
            case "0 3": began(13); return voice(ride, "1", own, x) ^ voice(ride, "2", own, x);
            case "1 1": began(20); return voice(ride, "1", 0, x) - voice(ride, "2", own, 1);
            case "2 0": began(30); return voice(ride, "0", 0, x) * 3;
            case "3 2": began(40); return -voice(ride, "2", 1, x);
            case "4 3": began(50); return voice(ride, "3", 0, x) - voice(ride, "0", own, 2);
            case "5 1": began(60); return voice(ride, "1", 3, x) ^ ride;
            case "6 0": began(70); return voice(ride, "0", 2, x + 1);
            case "6 3": began(71); return voice(ride, "1", own, x) - voice(ride, "3", 2, x);
            default: return voice(ride, act, ABOVE[kind], x);
        }
    }

    private void began(int body) {
        trace.add(body);
    }

    private int sheet(int sheet, int size, int n) {
        beyondUnless(in(sheet, 0, 3) && (size == 0 || size == 8 || size == 16 || size == 32));
        if (size != 0) {
            refuseUnless(n >= 0, 3);
            beyondUnless(n <= 40);
        }
        bits[sheet] = size;
        sheets[sheet] = size == 0 ? null : new int[n];
        return 1;
    }

    private int[] sheetOf(int sheet) {
        beyondUnless(in(sheet, 0, 3));
        refuseUnless(sheets[sheet] != null, 2);
        return sheets[sheet];
    }

    private int put(int sheet, int i, int v) {
        int[] row = sheetOf(sheet);
        beyondUnless(in(i, 0, row.length - 1));
        row[i] = v << (32 - bits[sheet]) >> (32 - bits[sheet]);
        return 1;
    }

    private int move(int sheet, int i, int other, int j, int n) {
        beyondUnless(in(sheet, 0, 3) && in(other, 0, 3));
        int[] from = sheetOf(sheet);
        int[] to = sheetOf(other);
        refuseUnless(bits[sheet] == bits[other], 5);
        beyondUnless(n >= 0 && i >= 0 && j >= 0);
        beyondUnless((long) i + n <= from.length && (long) j + n <= to.length);
        int[] were = from.clone();
        for (int k = 0; k < n; k++) {
            to[j + k] = were[i + k];
        }
        return n;
    }

    private int check(int n) {
        List<Integer> waited = new ArrayList<>(waiting);
        waiting.clear();
        List<Integer> places = new ArrayList<>();
        for (int[] ride : ahead(n).rides) {
            places.add(ride[PLACE]);
        }
        for (int i = 0; i < Math.max(places.size(), waited.size()); i++) {
            if (i >= places.size() || i >= waited.size() || (int) places.get(i) != waited.get(i)) {
                return i + 1;
            }
        }
        return 0;
    }

    private int count(int what) {
        int underWay = 0;
        for (int[] ride : rides) {
            underWay += 1 - ride[IN];
        }
        return new int[] {now, rides.size(), underWay, lines.size(), loads.size(), tape.length(), waiting.size(),
            Math.min(40, trace.size()), z}[what];
    }
}
