import java.lang.reflect.Method;
import java.util.ArrayList;
import java.util.Arrays;
import java.util.List;
import java.util.Map;
import java.util.Random;
import java.util.TreeMap;

/** All promises together: long runs of mixed calls answer as the plain model does, ERRORS and counts of them with it. */
public final class WholeRunsTest {
    private static final int RUNS = 400;
    /** What more calls answer is free. */
    private static final int CALLS = 512;
    private static final String OPERATORS = "+-*/%+-*/%<=>&|";
    private static final String[] NAMES = {"wps", "wvst"};

    /** The ends of each argument. R: RIDES there are; S: SPAN's yards; P: its PLACES; L: LINES there are; ?: any number. */
    private static final String[] ENDS = {
        "wire 0..8 ?", "wire 0..8 ?", "depth S 0..300", "steep S 0..300", "pulled S 0..300", "most", "tight",
        "ride 0..6 1..300 0..99", "ride 0..6 1..300 0..99", "ofRide R 0..8", "ofRide R 3..8", "as R 0..6",
        "start R P -300..300", "start R P -300..300", "start R P 0..0", "feed ? 1..8", "text 0..1",
        "law 0..1 -9..300 -9..300 -9..300 -9..300", "law 0..1 ? ? ? ?", "ticks 1..200", "ticks 1..9", "ticks 1..3",
        "gusts 1..200", "gusts 1..9", "then 0..200 R 0..8", "strands 0..200", "stands R", "stands R", "comes R",
        "comes R", "snug R 1..60 1..300", "snug R 40..60 1..300", "lower R 1..60", "lower R 1..60",
        "line 1..9999 1..999", "line 1..9999 1..99", "lines 0..3", "over L -1..7", "over L -1..3", "load 1..99 0..1",
        "load 1..99 0..1", "load 1..99 0..1", "unload", "order -1..4", "order -1..4", "order -1..1",
        "bridge 1..9999 1..99", "seed ?", "voice R 0..3 ?", "voice R 0..3 -9..9", "trace 0..10", "trace 0..3",
        "sheet 0..3 ? 0..40", "put 0..3 0..39 ?", "put 0..3 0..39 1..99", "put 0..3 0..9 1..99",
        "move 0..3 0..20 0..3 0..20 0..20", "move 0..3 0..9 0..3 0..9 0..9", "image", "restore", "tell ?", "tell 0..9",
        "check 0..200", "count 0..8", "told 1..5"};

    private final Random random;
    private final GorgeWire x = new GorgeWire();
    private final PlainModel model = new PlainModel();
    private final Map<String, Method> calls;
    private final StringBuilder latest = new StringBuilder();
    private final int number;
    private int used = 0;
    private boolean fine = true;

    private WholeRunsTest(int number, Map<String, Method> calls) {
        this.number = number;
        this.calls = calls;
        this.random = new Random(number);
    }

    public static void main(String[] args) throws Exception {
        Map<String, Method> calls = new TreeMap<>();
        for (Method method : GorgeWire.class.getDeclaredMethods()) {
            if (java.lang.reflect.Modifier.isPublic(method.getModifiers())) {
                calls.put(method.getName(), method);
            }
        }
        for (int i = 0; i < RUNS; i++) {
            new WholeRunsTest(i, calls).run();
        }
        Due.end();
    }

    private void run() throws Exception {
        if (number % 3 == 0) {
            ask("wire", 8, 999);
        }
        for (int i = 0; i < number % 5; i++) {
            ask("ride", random.nextInt(7), 1 + random.nextInt(300), random.nextInt(100));
        }
        if (number % 7 == 0) {
            askLastTicks();
        }
        while (fine && used < CALLS) {
            switch (random.nextInt(30)) {
                case 0: askText(); break;
                case 1: askPlaces(); break;
                case 2: askLines(); break;
                case 3: askTells(); break;
                default: askAny(); break;
            }
        }
    }

    private void ask(String call, long... values) throws Exception {
        if (used >= CALLS || !fine) {
            return;
        }
        used++;
        Method method = calls.get(call);
        Object[] given = new Object[values.length];
        for (int i = 0; i < values.length; i++) {
            given[i] = method.getParameterTypes()[i] == long.class ? (Object) values[i] : (Object) (int) values[i];
        }
        int due = model.answer(call, values);
        int got = (Integer) method.invoke(x, given);
        latest.append("\n  ").append(call).append(Arrays.toString(values)).append(" due ").append(due);
        fine = got == due;
        Due.is("run " + number + ", call " + used + (fine ? "" : latest), got, due);
    }

    private void askAny() throws Exception {
        String[] parts = ENDS[random.nextInt(ENDS.length)].split(" ");
        long[] values = new long[parts.length - 1];
        for (int i = 0; i < values.length; i++) {
            values[i] = argument(parts[i + 1]);
        }
        switch (parts[0]) {
            case "wire": values[1] = values[0] < 0 || values[0] > 8 ? 50 : ofWire((int) values[0]); break;
            case "sheet": values[1] = bits(); break;
            case "feed": values[0] = random.nextLong(); break;
            default: break;
        }
        ask(parts[0], values);
    }

    private long argument(String ends) {
        switch (ends) {
            case "R": return between(0, Math.max(0, model.rides.size() - 1));
            case "S": return between(0, model.wire[0]);
            case "P": return between(0, 10 * model.wire[0]);
            case "L": return between(0, Math.max(0, model.lines.size() - 1));
            case "?": return anyNumber();
            default:
                String[] both = ends.split("\\.\\.");
                return between(Integer.parseInt(both[0]), Integer.parseInt(both[1]));
        }
    }

    /** In each run some bits come oftener, so that SHEETS are of like ones. */
    private int bits() {
        int often = 8 << number % 3;
        return random.nextInt(12) == 0 ? anyNumber() : new int[] {often, often, often, 8, 16, 32, 0}[random.nextInt(7)];
    }

    private long ofWire(int what) {
        return between(PlainModel.LEAST[what], PlainModel.GREATEST[what]);
    }

    /** Mostly inside, often an end, sometimes what is next to it or anything. */
    private long between(int least, int greatest) {
        switch (random.nextInt(24)) {
            case 0: return least;
            case 1: return greatest;
            case 2: return random.nextBoolean() ? least - 1 : greatest + 1;
            case 3: return random.nextInt(3) == 0 ? anyNumber() : least;
            case 4: case 5: case 6: return least + random.nextInt(Math.min(3, greatest - least + 1));
            default: return least + random.nextInt(greatest - least + 1);
        }
    }

    private int anyNumber() {
        switch (random.nextInt(5)) {
            case 0: return random.nextInt();
            case 1: return random.nextBoolean() ? Integer.MIN_VALUE : Integer.MAX_VALUE;
            case 2: return 1 << random.nextInt(32);
            default: return random.nextInt(40000) - 20000;
        }
    }

    // ---- calls that belong together

    /** Up to the last TICKS, and around them: 99999 take 500 of a run's 512 calls. */
    private void askLastTicks() throws Exception {
        for (int i = 0; i < 499; i++) {
            ask("ticks", 200);
        }
        while (fine && used < CALLS) {
            switch (random.nextInt(6)) {
                case 0: ask("then", 200, 0, between(0, 8)); break;
                case 1: ask("start", 0, between(0, 3000), between(-300, 300)); break;
                case 2: ask("gusts", between(1, 200)); break;
                case 3: ask("ticks", between(99, 101)); break;
                case 4: ask("ticks", Math.max(1, 99999 - model.now) + random.nextInt(2)); break;
                default: ask("count", 0); break;
            }
        }
    }

    private void askTells() throws Exception {
        int many = random.nextInt(23);
        for (int i = 0; i < many; i++) {
            ask("tell", anyNumber());
        }
    }

    private void askText() throws Exception {
        int use = random.nextInt(2);
        StringBuilder text = new StringBuilder();
        makeText(text, NAMES[use], 0);
        text.setLength(Math.min(50, text.length()));
        if (text.length() > 0 && random.nextInt(3) == 0) {
            text.setCharAt(random.nextInt(text.length()), "wpst0!()+<=>&|%v \0\u00e9".charAt(random.nextInt(19)));
        }
        for (int from = 0; from < text.length(); from += 8) {
            long word = random.nextInt(2) == 0 ? 0 : -1;
            int n = Math.min(8, text.length() - from);
            for (int i = n - 1; i >= 0; i--) {
                word = word << 8 | text.charAt(from + i);
            }
            ask("feed", word, n);
        }
        ask("text", use);
    }

    private void makeText(StringBuilder text, String names, int open) {
        int operands = 1 + random.nextInt(open == 0 ? 5 : 3);
        for (int i = 0; i < operands; i++) {
            if (i > 0) {
                text.append(OPERATORS.charAt(random.nextInt(OPERATORS.length())));
            }
            makeOperand(text, names, open);
        }
    }

    private void makeOperand(StringBuilder text, String names, int open) {
        int kind = random.nextInt(10);
        if (kind < 2 && open < 6) {
            text.append('(');
            makeText(text, names, open + 1);
            text.append(')');
        } else if (kind == 2 && open < 6) {
            text.append('!');
            makeOperand(text, names, open + 1);
        } else if (kind < 6) {
            text.append(random.nextInt(random.nextInt(20) == 0 ? 20000 : 200));
        } else {
            text.append(names.charAt(random.nextInt(names.length())));
        }
    }

    /** The numbers that wait are told as PLACES AHEAD, often all of them rightly. */
    private void askPlaces() throws Exception {
        int n = random.nextInt(201);
        if (random.nextInt(4) > 0) {
            ask("check", random.nextInt(3) == 0 ? 201 : 0);
        }
        List<Integer> places = new ArrayList<>();
        for (int[] ride : model.ahead(n).rides) {
            places.add(ride[PlainModel.PLACE]);
        }
        int wrong = random.nextInt(3) == 0 ? random.nextInt(8) : -1;
        int many = places.size() + (random.nextInt(4) == 0 ? random.nextInt(3) - 1 : 0);
        for (int i = 0; i < many; i++) {
            int place = i < places.size() ? places.get(i) : 0;
            ask("tell", i == wrong ? place + 1 : place);
        }
        ask("check", n);
    }

    /** Thin LINES of which some pull others, put by a SHEET. */
    private void askLines() throws Exception {
        int sheet = random.nextInt(4);
        int many = random.nextInt(11);
        ask("sheet", sheet, 8 << number % 3, many);
        for (int i = 0; i < many; i++) {
            ask("put", sheet, i, i % 2 == 0 ? 1 + random.nextInt(900) : 1 + random.nextInt(30));
        }
        ask("lines", sheet);
        ask("over", between(0, 7), -1);
    }
}
