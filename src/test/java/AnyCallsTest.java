import java.lang.reflect.Method;
import java.util.Arrays;
import java.util.Comparator;
import java.util.Random;

/** Terms, of ERRORS, for all promises: runs of any calls never throw, and a call that answers an ERROR changes nothing. */
public final class AnyCallsTest {
    private static final int[] EDGES = {Integer.MIN_VALUE, Integer.MAX_VALUE, -1, 0, 1, 2, 3, 7, 8, 9, 20, 40, 60,
        99, 100, 200, 300, 400, 999, 9999};
    private static final String SIGNS = "wpsvt0129!()+-*/%<=>&|";

    public static void main(String[] args) throws Exception {
        Method[] calls = GorgeWire.class.getDeclaredMethods();
        calls = Arrays.stream(calls).filter(m -> java.lang.reflect.Modifier.isPublic(m.getModifiers()))
                .sorted(Comparator.comparing(Method::getName)).toArray(Method[]::new);
        Due.is("calls of the face", calls.length, 40);
        for (int seed = 0; seed < 600; seed++) {
            run(calls, new Random(seed), seed);
        }
        Due.end();
    }

    /** The twin is given only the calls that answered no ERROR; it must answer them alike. */
    private static void run(Method[] calls, Random random, int seed) throws Exception {
        GorgeWire x = new GorgeWire();
        GorgeWire twin = new GorgeWire();
        int[] errors = new int[6];
        int used = 0;
        // What more than 512 calls answer is free: five are kept for the counts at the end, two are used by an ERROR.
        while (used < 506) {
            Method call = calls[random.nextInt(calls.length)];
            Object[] values = values(call, random);
            int answer = (Integer) call.invoke(x, values);
            used++;
            boolean error = false;
            if (answer <= Due.BEYOND && answer >= Due.KIND) {
                // Of some calls it may be any number: told() tells whether it is an ERROR.
                int k = Due.LOW - answer;
                int told = x.told(k);
                used++;
                error = told == errors[k] + 1;
                Due.is("an ERROR is counted once at most", told - errors[k], error ? 1 : 0);
                errors[k] = told;
            }
            boolean clearsAlways = call.getName().equals("check");
            if ((!error || clearsAlways) && !call.getName().equals("told")) {
                String told = "run " + seed + ", " + call.getName() + Arrays.toString(values);
                Due.is(told, (Integer) call.invoke(twin, values), answer);
            }
        }
        for (int k = 1; k <= 5; k++) {
            Due.is("run " + seed + ", told(" + k + ")", x.told(k), errors[k]);
        }
    }

    private static Object[] values(Method call, Random random) {
        Class<?>[] types = call.getParameterTypes();
        Object[] values = new Object[types.length];
        for (int i = 0; i < types.length; i++) {
            values[i] = types[i] == long.class ? (Object) word(random) : (Object) number(random);
        }
        return values;
    }

    private static Long word(Random random) {
        long word = 0;
        for (int i = 0; i < 8; i++) {
            word = word << 8 | SIGNS.charAt(random.nextInt(SIGNS.length()));
        }
        return random.nextInt(20) == 0 ? random.nextLong() : word;
    }

    private static Integer number(Random random) {
        switch (random.nextInt(10)) {
            case 0: return EDGES[random.nextInt(EDGES.length)];
            case 1: return random.nextInt();
            case 2: return random.nextInt(2000) - 500;
            case 3: case 4: return random.nextInt(250);
            default: return random.nextInt(9);
        }
    }
}
