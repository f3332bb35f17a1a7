/** Over a gorge on a wire. What each call promises is told in ../shared/DOC.md. */
public final class GorgeWire {
    private static final int LOW = -1000000000;
    private static final int BEYOND = 1;
    private static final int NONE = 2;
    private static final int STATE = 3;
    private static final int FULL = 4;
    private static final int KIND = 5;

    private static final int SPAN = 0;
    private static final int DROP = 1;
    private static final int PULL = 2;
    private static final int HEAVY = 3;
    private static final int WARM = 4;
    private static final int BEARS = 5;
    private static final int RUB = 6;
    private static final int WIND = 7;
    private static final int STRANDS = 8;

    private static final int ROLLED = 1;
    private static final int HAULED = 2;
    private static final int BRAKED = 3;
    private static final int WINDY = 4;
    private static final int LATE = 5;
    private static final int GREASED = 6;

    private static final int WEAR = 0;
    private static final int GOES = 1;

    private static final int LAST_TICK = 99999;
    private static final int MOST_TICKS = 200;
    private static final int MOST_TRIED = 60;
    private static final int MOST_WEIGHT = 300;
    private static final int MOST_PACE = 300;
    private static final int MOST_M = 99;
    private static final int MOST_RIDES = 8;
    private static final int MOST_LINES = 8;
    private static final int MOST_STRONG = 9999;
    private static final int MOST_THICK = 999;
    private static final int MOST_LOADS = 5;
    private static final int MOST_TIME = 99;
    private static final int EMPTY_CROSSING = 5;
    private static final int BEYOND_ANY_TIME = 1000000;
    private static final int MOST_BYTES = 50;
    private static final int MOST_WAITING = 20;
    private static final int MOST_TRACED = 40;
    private static final int SHEETS = 4;
    private static final int SHEET_ROOM = 40;

    private final Reader reader = new Reader();
    private final State live = new State(reader);
    private final State ahead = new State(reader);
    private final State kept = new State(reader);
    private int timesKept = 0;
    private final int[] answered = new int[KIND + 1];
    private final Row traced = new Row(MOST_TRACED);
    private final Row[] sheets = new Row[SHEETS];
    private final int[] bitsOf = new int[SHEETS];
    private final int[] toGo = new int[MOST_LINES];
    private final int[] tried = new int[MOST_LOADS];
    private final int[] best = new int[MOST_LOADS];
    private int bestTime = 0;

    public GorgeWire() {
        for (int i = 0; i < SHEETS; i++) {
            sheets[i] = new Row(SHEET_ROOM);
        }
    }

    // ---- the wire

    public int wire(int what, int v) {
        if (!Wire.allows(what, v)) {
            return fail(BEYOND);
        }
        int was = live.wire.of(what);
        live.wire.becomes(what, v);
        live.keepPlacesOnWire();
        return was;
    }

    public int depth(int x, int load) {
        return isOnWire(x, load) ? live.wire.depthAt(x, load) : fail(BEYOND);
    }

    public int steep(int x, int load) {
        return isOnWire(x, load) ? live.wire.steepAt(x, load) : fail(BEYOND);
    }

    public int pulled(int x, int load) {
        return isOnWire(x, load) ? live.wire.pulledAt(x, load) : fail(BEYOND);
    }

    public int most() {
        // No yard is pulled more than the middle one, whatever the load.
        int middle = live.wire.of(SPAN) / 2;
        for (int load = MOST_WEIGHT; load >= 0; load--) {
            if (live.wire.pulledAt(middle, load) <= live.wire.of(BEARS)) {
                return load;
            }
        }
        return fail(NONE);
    }

    public int tight() {
        return live.wire.taut();
    }

    // ---- rides

    public int ride(int kind, int weight, int m) {
        if (!within(kind, 0, GREASED) || !within(weight, 1, MOST_WEIGHT) || !within(m, 0, MOST_M)) {
            return fail(BEYOND);
        }
        if (!mayGo(weight)) {
            return fail(STATE);
        }
        if (live.riders >= MOST_RIDES) {
            return fail(FULL);
        }
        return live.addRide(made(kind, live.riders, weight, m));
    }

    public int ofRide(int ride, int what) {
        if (!within(what, 0, 8) || live.rideAt(ride) == null) {
            return fail(BEYOND);
        }
        return live.factOf(ride, what);
    }

    public int as(int ride, int kind) {
        Ride one = live.rideAt(ride);
        if (one == null || !within(kind, 0, GREASED)) {
            return fail(BEYOND);
        }
        return isOf(one, kind) ? one.weight : fail(KIND);
    }

    public int start(int ride, int place, int pace) {
        if (live.rideAt(ride) == null || !within(place, 0, live.wire.end())
                || !within(pace, -MOST_PACE, MOST_PACE)) {
            return fail(BEYOND);
        }
        int was = live.place[ride];
        live.place[ride] = place;
        live.pace[ride] = pace;
        live.in[ride] = false;
        return was;
    }

    // ---- texts, ticks

    public int feed(long word, int n) {
        if (!within(n, 1, 8)) {
            return fail(BEYOND);
        }
        if (live.tape.size + n > MOST_BYTES) {
            return fail(FULL);
        }
        for (int i = 0; i < n; i++) {
            live.tape.add((int) (word >>> (8 * i)) & 255);
        }
        return live.tape.size;
    }

    public int text(int use) {
        if (!within(use, WEAR, GOES)) {
            return fail(BEYOND);
        }
        int fault = reader.faultOf(live.tape, use);
        if (fault < 0) {
            live.textOf(use).copyFrom(live.tape);
        }
        live.tape.clear();
        return fault < 0 ? 1 : -10 - fault;
    }

    public int law(int use, int a, int b, int c, int d) {
        return within(use, WEAR, GOES) ? reader.gives(live.textOf(use), use, a, b, c, d) : fail(BEYOND);
    }

    public int ticks(int n) {
        if (!within(n, 1, MOST_TICKS)) {
            return fail(BEYOND);
        }
        if (live.now + n > LAST_TICK) {
            return fail(STATE);
        }
        live.pass(n);
        return live.now;
    }

    public int gusts(int n) {
        if (!within(n, 1, MOST_TICKS)) {
            return fail(BEYOND);
        }
        if (live.now + n > LAST_TICK) {
            return fail(STATE);
        }
        for (int i = 0; i < n; i++) {
            live.wire.becomes(WIND, live.draw() % 41 - 20);
            live.pass(1);
        }
        return live.wire.of(WIND);
    }

    // ---- ahead

    public int then(int n, int ride, int what) {
        if (!within(n, 0, MOST_TICKS) || !within(what, 0, 8) || live.rideAt(ride) == null) {
            return fail(BEYOND);
        }
        lookAhead(n);
        return ahead.factOf(ride, what);
    }

    public int strands(int n) {
        if (!within(n, 0, MOST_TICKS)) {
            return fail(BEYOND);
        }
        lookAhead(n);
        return ahead.wire.of(STRANDS);
    }

    public int stands(int ride) {
        if (live.rideAt(ride) == null) {
            return fail(BEYOND);
        }
        ahead.copyFrom(live);
        for (int n = 1; n <= MOST_TICKS && !ahead.in[ride]; n++) {
            if (!ahead.goesOn(ride)) {
                return n;
            }
        }
        return fail(NONE);
    }

    public int comes(int ride) {
        if (live.rideAt(ride) == null) {
            return fail(BEYOND);
        }
        if (live.in[ride]) {
            return fail(STATE);
        }
        ahead.copyFrom(live);
        int n = ahead.comesWithin(ride, MOST_TICKS);
        return n > 0 ? n : fail(NONE);
    }

    public int snug(int ride, int n, int q) {
        if (live.rideAt(ride) == null || !within(n, 1, MOST_TRIED) || !within(q, 1, MOST_PACE)) {
            return fail(BEYOND);
        }
        return leastBy(PULL, 100, 9900, 100, ride, n, q);
    }

    public int lower(int ride, int n) {
        if (live.rideAt(ride) == null || !within(n, 1, MOST_TRIED)) {
            return fail(BEYOND);
        }
        return leastBy(DROP, -99, 99, 1, ride, n, MOST_PACE);
    }

    // ---- lines, loads

    public int line(int strong, int thick) {
        if (!isLine(strong, thick)) {
            return fail(BEYOND);
        }
        if (live.strong.isFull()) {
            return fail(FULL);
        }
        return addLine(strong, thick);
    }

    public int lines(int sheet) {
        if (!within(sheet, 0, SHEETS - 1)) {
            return fail(BEYOND);
        }
        if (bitsOf[sheet] == 0) {
            return fail(NONE);
        }
        Row from = sheets[sheet];
        int came = 0;
        while (came < MOST_LINES && 2 * came + 1 < from.size && !live.strong.isFull()
                && isLine(from.at(2 * came), from.at(2 * came + 1))) {
            addLine(from.at(2 * came), from.at(2 * came + 1));
            came++;
        }
        return came;
    }

    public int over(int line, int i) {
        if (!within(line, 0, live.strong.size - 1) || i < -1) {
            return fail(BEYOND);
        }
        findLinesToGo(line);
        if (toGo[0] == 0 || i >= toGo[0]) {
            return fail(NONE);
        }
        return i == -1 ? toGo[0] : lineOfRow(i);
    }

    public int load(int time, int side) {
        if (!within(time, 1, MOST_TIME) || !within(side, 0, 1)) {
            return fail(BEYOND);
        }
        if (live.times.isFull()) {
            return fail(FULL);
        }
        live.times.add(time);
        live.sides.add(side);
        return live.times.size - 1;
    }

    public int unload() {
        int were = live.times.size;
        live.times.clear();
        live.sides.clear();
        return were;
    }

    public int order(int i) {
        if (i < -1) {
            return fail(BEYOND);
        }
        if (i >= live.times.size) {
            return fail(NONE);
        }
        bestTime = BEYOND_ANY_TIME;
        tryOrders(0, 0, 0, 0);
        return i == -1 ? bestTime : best[i];
    }

    public int bridge(int c, int k) {
        if (!within(c, 1, 9999) || !within(k, 1, 99)) {
            return fail(BEYOND);
        }
        return (c + k - 1) / k;
    }

    // ---- draws, voices, sheets, images, what is told

    public int seed(int v) {
        int was = live.z;
        live.z = v;
        return was;
    }

    public int voice(int ride, int act, int x) {
        Ride one = live.rideAt(ride);
        if (one == null || !within(act, 0, 3)) {
            return fail(BEYOND);
        }
        traced.clear();
        switch (act) {
            case 0: return one.hangs(x);
            case 1: return one.rolls(x);
            case 2: return one.bears(x);
            default: return one.wears(x);
        }
    }

    public int trace(int i) {
        return within(i, 0, traced.size - 1) ? traced.at(i) : fail(NONE);
    }

    public int sheet(int sheet, int bits, int n) {
        if (!within(sheet, 0, SHEETS - 1) || !(bits == 0 || bits == 8 || bits == 16 || bits == 32)) {
            return fail(BEYOND);
        }
        if (bits != 0 && n < 0) {
            return fail(STATE);
        }
        if (bits != 0 && n > SHEET_ROOM) {
            return fail(BEYOND);
        }
        bitsOf[sheet] = bits;
        sheets[sheet].becomesZeros(bits == 0 ? 0 : n);
        return 1;
    }

    public int put(int sheet, int i, int v) {
        if (!within(sheet, 0, SHEETS - 1)) {
            return fail(BEYOND);
        }
        if (bitsOf[sheet] == 0) {
            return fail(NONE);
        }
        if (!within(i, 0, sheets[sheet].size - 1)) {
            return fail(BEYOND);
        }
        sheets[sheet].becomes(i, lowest(v, bitsOf[sheet]));
        return 1;
    }

    public int move(int sheet, int i, int other, int j, int n) {
        if (!within(sheet, 0, SHEETS - 1) || !within(other, 0, SHEETS - 1)) {
            return fail(BEYOND);
        }
        if (bitsOf[sheet] == 0 || bitsOf[other] == 0) {
            return fail(NONE);
        }
        if (bitsOf[sheet] != bitsOf[other]) {
            return fail(KIND);
        }
        if (!sheets[sheet].holds(i, n) || !sheets[other].holds(j, n)) {
            return fail(BEYOND);
        }
        System.arraycopy(sheets[sheet].numbers, i, sheets[other].numbers, j, n);
        return n;
    }

    public int image() {
        kept.copyFrom(live);
        timesKept++;
        return timesKept;
    }

    public int restore() {
        if (timesKept == 0) {
            return fail(NONE);
        }
        live.copyFrom(kept);
        return live.now;
    }

    public int tell(int v) {
        if (live.waiting.isFull()) {
            return fail(FULL);
        }
        live.waiting.add(v);
        return live.waiting.size;
    }

    public int check(int n) {
        if (!within(n, 0, MOST_TICKS)) {
            live.waiting.clear();
            return fail(BEYOND);
        }
        lookAhead(n);
        live.waiting.clear();
        int same = 0;
        while (same < ahead.riders && same < ahead.waiting.size
                && ahead.waiting.at(same) == ahead.place[same]) {
            same++;
        }
        return same == ahead.riders && same == ahead.waiting.size ? 0 : same + 1;
    }

    public int count(int what) {
        switch (what) {
            case 0: return live.now;
            case 1: return live.riders;
            case 2: return live.underWay();
            case 3: return live.strong.size;
            case 4: return live.times.size;
            case 5: return live.tape.size;
            case 6: return live.waiting.size;
            case 7: return traced.size;
            case 8: return live.z;
            default: return fail(BEYOND);
        }
    }

    public int told(int k) {
        return within(k, BEYOND, KIND) ? answered[k] : fail(BEYOND);
    }

    // ---- what the calls above share

    private int fail(int error) {
        answered[error]++;
        return LOW - error;
    }

    private static boolean within(int v, int least, int greatest) {
        return v >= least && v <= greatest;
    }

    private static int held(int v, int least, int greatest) {
        return Math.max(least, Math.min(v, greatest));
    }

    private boolean isOnWire(int x, int load) {
        return within(x, 0, live.wire.of(SPAN)) && within(load, 0, MOST_WEIGHT);
    }

    private boolean mayGo(int weight) {
        Wire wire = live.wire;
        return reader.gives(live.textOf(GOES), GOES, weight, wire.of(WIND), wire.of(STRANDS), live.now) != 0;
    }

    private Ride made(int kind, int number, int weight, int m) {
        switch (kind) {
            case ROLLED: return new Rolled(kind, number, weight, m, traced);
            case HAULED: return new Hauled(kind, number, weight, m, traced);
            case BRAKED: return new Braked(kind, number, weight, m, traced);
            case WINDY: return new Windy(kind, number, weight, m, traced);
            case LATE: return new Late(kind, number, weight, m, traced);
            case GREASED: return new Greased(kind, number, weight, m, traced);
            default: return new Ride(kind, number, weight, m, traced);
        }
    }

    private static boolean isOf(Ride one, int kind) {
        switch (kind) {
            case ROLLED: return one instanceof Rolled;
            case HAULED: return one instanceof Hauled;
            case BRAKED: return one instanceof Braked;
            case WINDY: return one instanceof Windy;
            case LATE: return one instanceof Late;
            case GREASED: return one instanceof Greased;
            default: return true;
        }
    }

    private void lookAhead(int n) {
        ahead.copyFrom(live);
        ahead.pass(n);
    }

    /** The least value of THE WIRE's what by which a RIDE comes in n TICKS, no quicker than q. */
    private int leastBy(int what, int from, int to, int step, int ride, int n, int q) {
        if (live.in[ride]) {
            return fail(STATE);
        }
        ahead.copyFrom(live);
        for (int v = from; v <= to; v += step) {
            ahead.copyRide(live, ride);
            ahead.wire.becomes(what, v);
            if (ahead.comesWithin(ride, n) > 0 && ahead.came[ride] <= q) {
                return v;
            }
        }
        return fail(NONE);
    }

    private static boolean isLine(int strong, int thick) {
        return within(strong, 1, MOST_STRONG) && within(thick, 1, MOST_THICK);
    }

    private int addLine(int strong, int thick) {
        live.strong.add(strong);
        live.thick.add(thick);
        return live.strong.size - 1;
    }

    private boolean pulls(int line, int other) {
        return live.thick.at(other) * live.wire.of(SPAN) / 10 <= live.strong.at(line);
    }

    /** Notes for each LINE how many go over from it to the last one, both with them; 0 if it can't be. */
    private void findLinesToGo(int last) {
        int lines = live.strong.size;
        for (int i = 0; i < MOST_LINES; i++) {
            toGo[i] = i == last ? 1 : 0;
        }
        for (int far = 1; far < lines; far++) {
            for (int i = 0; i < lines; i++) {
                if (toGo[i] == 0 && nextOf(i, far) >= 0) {
                    toGo[i] = far + 1;
                }
            }
        }
    }

    /** The first LINE that a LINE pulls and that has so many to go; -1: none. */
    private int nextOf(int line, int far) {
        for (int i = 0; i < live.strong.size; i++) {
            if (toGo[i] == far && pulls(line, i)) {
                return i;
            }
        }
        return -1;
    }

    private int lineOfRow(int i) {
        int line = 0;
        for (int step = 1; step <= i && line >= 0; step++) {
            line = nextOf(line, toGo[0] - step);
        }
        return line;
    }

    /** Orders are tried as they stand by numbers, so the first of several that take least is kept. */
    private void tryOrders(int depth, int used, int sheave, int time) {
        int loads = live.times.size;
        if (depth >= loads) {
            if (time < bestTime) {
                bestTime = time;
                System.arraycopy(tried, 0, best, 0, loads);
            }
            return;
        }
        for (int i = 0; i < loads; i++) {
            if ((used >> i & 1) == 0) {
                int side = live.sides.at(i);
                int empty = side == sheave ? 0 : EMPTY_CROSSING;
                tried[depth] = i;
                tryOrders(depth + 1, used | 1 << i, 1 - side, time + empty + live.times.at(i));
            }
        }
    }

    private static int lowest(int v, int bits) {
        switch (bits) {
            case 8: return (byte) v;
            case 16: return (short) v;
            default: return v;
        }
    }

    /** Numbers in a row, with room for so many. */
    private static final class Row {
        final int[] numbers;
        int size = 0;

        Row(int room) {
            numbers = new int[Math.max(0, room)];
        }

        boolean isFull() {
            return size >= numbers.length;
        }

        /** What has no room is left out. */
        void add(int v) {
            if (size < numbers.length) {
                numbers[size] = v;
                size++;
            }
        }

        void addSigns(String signs) {
            for (int i = 0; i < signs.length(); i++) {
                add(signs.charAt(i));
            }
        }

        int at(int i) {
            return within(i, 0, size - 1) ? numbers[i] : 0;
        }

        void becomes(int i, int v) {
            if (within(i, 0, size - 1)) {
                numbers[i] = v;
            }
        }

        void becomesZeros(int n) {
            size = held(n, 0, numbers.length);
            for (int i = 0; i < size; i++) {
                numbers[i] = 0;
            }
        }

        boolean holds(int i, int n) {
            return i >= 0 && n >= 0 && i <= size - n;
        }

        void clear() {
            size = 0;
        }

        void copyFrom(Row other) {
            size = Math.min(other.size, numbers.length);
            System.arraycopy(other.numbers, 0, numbers, 0, size);
        }
    }

    /** THE WIRE: what is told of it, and how it hangs. */
    private static final class Wire {
        private static final int[] LEAST = {20, -99, 100, 1, -40, 100, 0, -20, 0};
        private static final int[] GREATEST = {400, 99, 9999, 99, 40, 99999, 99, 20, 999};
        private static final int[] FIRST = {300, 10, 2000, 10, 0, 9000, 5, 0, 100};

        private final int[] values = FIRST.clone();

        static boolean allows(int what, int v) {
            return within(what, SPAN, STRANDS) && within(v, LEAST[what], GREATEST[what]);
        }

        int of(int what) {
            return what >= SPAN && what <= STRANDS ? values[what] : 0;
        }

        void becomes(int what, int v) {
            if (allows(what, v)) {
                values[what] = v;
            }
        }

        void copyFrom(Wire other) {
            System.arraycopy(other.values, 0, values, 0, values.length);
        }

        /** The PLACE at which a RIDE is in. */
        int end() {
            return 10 * values[SPAN];
        }

        int taut() {
            int pull = values[PULL] - 10 * values[WARM];
            return pull < 100 ? 100 : pull;
        }

        /** SPAN as a divisor: it is 20 at least, and this shows that it is never 0. */
        private int spanBy() {
            return values[SPAN] < 1 ? 1 : values[SPAN];
        }

        int depthAt(int x, int load) {
            long span = spanBy();
            long taut = taut();
            long bow = x * (span - x);
            return (int) (1000L * values[DROP] * x / span
                    + 500L * values[HEAVY] * bow / taut
                    + 1000L * load * bow / (span * taut));
        }

        int steepAt(int x, int load) {
            int from = Math.min(x, values[SPAN] - 1);
            return depthAt(from + 1, load) - depthAt(from, load);
        }

        int pulledAt(int x, int load) {
            int span = spanBy();
            return taut() + 4 * load * x * (span - x) / (span * span);
        }
    }

    /** A RIDE of KIND 0; the KINDS under it are classes under this one. What moves is held by State. */
    private static class Ride {
        final int kind;
        final int number;
        final int weight;
        final int m;
        final Row traced;

        Ride(int kind, int number, int weight, int m, Row traced) {
            this.kind = kind;
            this.number = number;
            this.weight = weight;
            this.m = m;
            this.traced = traced;
        }

        final int gain(Wire wire, int place, int pace) {
            return wire.steepAt(place / 10, weight) / 50 + gainOfKind(wire, place, pace);
        }

        /** What the KIND adds to the GAIN of any RIDE. */
        int gainOfKind(Wire wire, int place, int pace) {
            return 0;
        }

        int rubs(Wire wire) {
            return wire.of(RUB);
        }

        int hangs(int x) {
            traced.add(10);
            return x + number;
        }

        int rolls(int x) {
            traced.add(11);
            return hangs(x) * 2;
        }

        int bears(int x) {
            traced.add(12);
            return x - m;
        }

        int wears(int x) {
            traced.add(13);
            return rolls(x) ^ bears(x);
        }
    }

    private static class Rolled extends Ride {
        Rolled(int kind, int number, int weight, int m, Row traced) {
            super(kind, number, weight, m, traced);
        }

        int gainOfKind(Wire wire, int place, int pace) {
            return wire.of(WARM) > 0 ? 1 : 0;
        }

        int rolls(int x) {
            traced.add(20);
            return super.rolls(x) - bears(1);
        }
    }

    private static class Hauled extends Ride {
        Hauled(int kind, int number, int weight, int m, Row traced) {
            super(kind, number, weight, m, traced);
        }

        int gainOfKind(Wire wire, int place, int pace) {
            return m;
        }

        int hangs(int x) {
            traced.add(30);
            return super.hangs(x) * 3;
        }
    }

    private static final class Windy extends Ride {
        Windy(int kind, int number, int weight, int m, Row traced) {
            super(kind, number, weight, m, traced);
        }

        int gainOfKind(Wire wire, int place, int pace) {
            return wire.of(WIND);
        }

        int wears(int x) {
            traced.add(50);
            return super.wears(x) - hangs(2);
        }
    }

    private static class Braked extends Rolled {
        Braked(int kind, int number, int weight, int m, Row traced) {
            super(kind, number, weight, m, traced);
        }

        int gainOfKind(Wire wire, int place, int pace) {
            int free = super.gainOfKind(wire, place, pace);
            return pace > m && brakesAt(wire, place) ? free - (pace - m) / 2 : free;
        }

        boolean brakesAt(Wire wire, int place) {
            return true;
        }

        int bears(int x) {
            traced.add(40);
            return -super.bears(x);
        }
    }

    private static final class Late extends Braked {
        Late(int kind, int number, int weight, int m, Row traced) {
            super(kind, number, weight, m, traced);
        }

        boolean brakesAt(Wire wire, int place) {
            return place >= 8 * wire.of(SPAN);
        }

        int rolls(int x) {
            traced.add(60);
            return super.rolls(x) ^ number;
        }
    }

    private static final class Greased extends Hauled {
        Greased(int kind, int number, int weight, int m, Row traced) {
            super(kind, number, weight, m, traced);
        }

        int rubs(Wire wire) {
            return super.rubs(wire) / 2;
        }

        int hangs(int x) {
            traced.add(70);
            return super.hangs(x + 1);
        }

        int wears(int x) {
            traced.add(71);
            return rolls(x) - super.wears(x);
        }
    }

    /** Reads a TEXT and works it out as it goes; behind a FAULT nothing more is read. */
    private static final class Reader {
        private static final int MOST_WEAR = 99;
        private static final int MOST_OPEN = 5;
        private static final int MOST_DIGITS = 4;
        private static final int ENDED = -1;

        private final int[] values = new int[4];
        private Row signs = new Row(0);
        private String names = "";
        private int place = 0;
        private int fault = -1;

        /** The FAULT of a TEXT for a USE; -1: none. */
        int faultOf(Row text, int use) {
            gives(text, use, 0, 0, 0, 0);
            return fault;
        }

        /** What a TEXT of a USE gives, held as the USE wants it. */
        int gives(Row text, int use, int a, int b, int c, int d) {
            signs = text;
            names = use == WEAR ? "wps" : "wvst";
            values[0] = a;
            values[1] = b;
            values[2] = c;
            values[3] = d;
            place = 0;
            fault = -1;
            int worth = either(0);
            if (next() != ENDED) {
                stopHere();
            }
            return use == WEAR ? held(worth, 0, MOST_WEAR) : worth;
        }

        private int next() {
            return fault < 0 && place < signs.size ? signs.numbers[place] : ENDED;
        }

        private boolean takes(char sign) {
            boolean isNext = next() == sign;
            if (isNext) {
                place++;
            }
            return isNext;
        }

        private int stopHere() {
            if (fault < 0) {
                fault = place;
            }
            return 0;
        }

        private static int truth(boolean is) {
            return is ? 1 : 0;
        }

        private int either(int open) {
            int left = both(open);
            for (int i = 0; i < MOST_BYTES && takes('|'); i++) {
                int right = both(open);
                left = truth(left != 0 || right != 0);
            }
            return left;
        }

        private int both(int open) {
            int left = compared(open);
            for (int i = 0; i < MOST_BYTES && takes('&'); i++) {
                int right = compared(open);
                left = truth(left != 0 && right != 0);
            }
            return left;
        }

        private int compared(int open) {
            int left = sum(open);
            if (takes('<')) {
                return truth(left < sum(open));
            }
            if (takes('=')) {
                return truth(left == sum(open));
            }
            if (takes('>')) {
                return truth(left > sum(open));
            }
            return left;
        }

        private int sum(int open) {
            int left = product(open);
            for (int i = 0; i < MOST_BYTES; i++) {
                if (takes('+')) {
                    left += product(open);
                } else if (takes('-')) {
                    left -= product(open);
                } else {
                    break;
                }
            }
            return left;
        }

        private int product(int open) {
            int left = single(open);
            for (int i = 0; i < MOST_BYTES; i++) {
                if (takes('*')) {
                    left *= single(open);
                } else if (takes('/')) {
                    int right = single(open);
                    left = right == 0 ? 0 : left / right;
                } else if (takes('%')) {
                    int right = single(open);
                    left = right == 0 ? 0 : left % right;
                } else {
                    break;
                }
            }
            return left;
        }

        private int single(int open) {
            int sign = next();
            if (within(sign, '0', '9')) {
                return number();
            }
            if (sign == '!' || sign == '(') {
                return open < MOST_OPEN ? opened(open + 1) : stopHere();
            }
            int name = sign == ENDED ? -1 : names.indexOf((char) sign);
            if (!within(name, 0, values.length - 1)) {
                return stopHere();
            }
            place++;
            return values[name];
        }

        private int opened(int open) {
            if (takes('!')) {
                return truth(single(open) == 0);
            }
            place++;
            int inside = either(open);
            return takes(')') ? inside : stopHere();
        }

        private int number() {
            int number = 0;
            for (int i = 0; i < MOST_DIGITS && within(next(), '0', '9'); i++) {
                number = 10 * number + next() - '0';
                place++;
            }
            return number;
        }
    }

    /** All that an IMAGE keeps. */
    private static final class State {
        private final Reader reader;
        final Wire wire = new Wire();
        private final Ride[] rides = new Ride[MOST_RIDES];
        final int[] place = new int[MOST_RIDES];
        final int[] pace = new int[MOST_RIDES];
        final int[] came = new int[MOST_RIDES];
        final boolean[] in = new boolean[MOST_RIDES];
        int riders = 0;
        int now = 0;
        int z = 1;
        final Row tape = new Row(MOST_BYTES);
        private final Row wearText = new Row(MOST_BYTES);
        private final Row goesText = new Row(MOST_BYTES);
        final Row strong = new Row(MOST_LINES);
        final Row thick = new Row(MOST_LINES);
        final Row times = new Row(MOST_LOADS);
        final Row sides = new Row(MOST_LOADS);
        final Row waiting = new Row(MOST_WAITING);

        State(Reader reader) {
            this.reader = reader;
            wearText.addSigns("w/100+(p>100)");
            goesText.addSigns("s*5>w");
        }

        void copyFrom(State other) {
            wire.copyFrom(other.wire);
            for (int i = 0; i < MOST_RIDES; i++) {
                copyRide(other, i);
            }
            riders = other.riders;
            now = other.now;
            z = other.z;
            tape.copyFrom(other.tape);
            wearText.copyFrom(other.wearText);
            goesText.copyFrom(other.goesText);
            strong.copyFrom(other.strong);
            thick.copyFrom(other.thick);
            times.copyFrom(other.times);
            sides.copyFrom(other.sides);
            waiting.copyFrom(other.waiting);
        }

        void copyRide(State other, int i) {
            rides[i] = other.rides[i];
            place[i] = other.place[i];
            pace[i] = other.pace[i];
            came[i] = other.came[i];
            in[i] = other.in[i];
        }

        /** null: there is none such. */
        Ride rideAt(int i) {
            return within(i, 0, riders - 1) ? rides[i] : null;
        }

        /** The caller has seen that there is room. */
        int addRide(Ride one) {
            int i = riders;
            rides[i] = one;
            place[i] = 0;
            pace[i] = 0;
            came[i] = 0;
            in[i] = false;
            riders++;
            return i;
        }

        int factOf(int i, int what) {
            Ride one = rideAt(i);
            if (one == null) {
                return 0;
            }
            switch (what) {
                case 0: return one.kind;
                case 1: return one.weight;
                case 2: return one.m;
                case 3: return place[i];
                case 4: return pace[i];
                case 5: return in[i] ? 1 : 0;
                case 6: return came[i];
                case 7: return one.gain(wire, place[i], pace[i]);
                default: return one.rubs(wire);
            }
        }

        int underWay() {
            int n = 0;
            for (int i = 0; i < riders; i++) {
                n += in[i] ? 0 : 1;
            }
            return n;
        }

        void keepPlacesOnWire() {
            for (int i = 0; i < riders; i++) {
                place[i] = Math.min(place[i], wire.end());
            }
        }

        Row textOf(int use) {
            return use == WEAR ? wearText : goesText;
        }

        int draw() {
            z = z * 1103515245 + 12345;
            return z >>> 8;
        }

        void pass(int n) {
            boolean goOn = true;
            // A TICK that changed no RIDE is followed by TICKS that change none either.
            for (int t = 0; t < n && goOn; t++) {
                goOn = false;
                for (int i = 0; i < riders; i++) {
                    if (!in[i] && goesOn(i)) {
                        goOn = true;
                        wearStrands(i);
                    }
                }
            }
            now += n;
        }

        /** A TICK of a RIDE that is under way, but for STRANDS: whether it was changed. */
        boolean goesOn(int i) {
            Ride one = rideAt(i);
            if (one == null) {
                return false;
            }
            int placeWas = place[i];
            int paceWas = pace[i];
            int quick = rubbed(paceWas + one.gain(wire, placeWas, paceWas), one.rubs(wire));
            pace[i] = held(quick, -MOST_PACE, MOST_PACE);
            place[i] = placeWas + pace[i];
            if (place[i] >= wire.end()) {
                comeIn(i);
            } else if (place[i] < 0) {
                place[i] = 0;
                pace[i] = 0;
            }
            return in[i] || place[i] != placeWas || pace[i] != paceWas;
        }

        private static int rubbed(int pace, int rubs) {
            return pace > 0 ? Math.max(0, pace - rubs) : Math.min(0, pace + rubs);
        }

        private void comeIn(int i) {
            place[i] = wire.end();
            came[i] = pace[i];
            pace[i] = 0;
            in[i] = true;
        }

        /** Behind the TICK of a RIDE that was under way: STRANDS are less if it is in. */
        private void wearStrands(int i) {
            Ride one = rideAt(i);
            if (one != null && in[i]) {
                int left = wire.of(STRANDS);
                int wear = reader.gives(wearText, WEAR, one.weight, came[i], left, 0);
                wire.becomes(STRANDS, Math.max(0, left - wear));
            }
        }

        /** Behind how many TICKS (n at most) a RIDE that is under way is in; 0: it isn't. */
        int comesWithin(int i, int n) {
            for (int t = 1; t <= n; t++) {
                if (!goesOn(i)) {
                    return 0;
                }
                if (in[i]) {
                    return t;
                }
            }
            return 0;
        }
    }
}
