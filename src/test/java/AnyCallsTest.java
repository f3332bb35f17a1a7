import java.lang.reflect.Method;
import java.util.Arrays;
import java.util.Comparator;
import java.util.Random;

/** Terms, of ERRORS, for all promises: runs of any calls never throw, and a call that answers an ERROR changes nothing. */
public final class AnyCallsTest {
    private static final int[] EDGES = {Integer.MIN_VALUE, Integer.MAX_VALUE, -1, 0, 1, 2, 3, 7, 8, 9, 20, 40, 60,
        99, 100, 200, 300, 400, 999, 9999};
    private static final String SIGNS = "wpsvt0129!()+-*/%<=>&|";

    public static void main(String[] args) throws Exception {
        Method[] calls = GorgeWire.class.getDeclaredMethods();
        calls = Arrays.stream(calls).filter(m -> java.lang.reflect.Modifier.isPublic(m.getModifiers()))
                .sorted(Comparator.comparing(Method::getName)).toArray(Method[]::new);
        Due.is("calls of the face", calls.length, 40);
        for (int seed = 0; seed < 400; seed++) {
            run(calls, new Random(seed), seed);
        }
        Due.end();
    }

    /** The twin is given only the calls that answered no ERROR; it must answer them alike. */
    private static void run(Method[] calls, Random random, int seed) throws Exception {
        GorgeWire x = new GorgeWire();
        GorgeWire twin = new GorgeWire();
        for (int i = 0; i < 512; i++) {
            Method call = calls[random.nextInt(calls.length)];
            Object[] values = values(call, random);
            long errorsAhead = errors(x);
            int answer = (Integer) call.invoke(x, values);
            boolean error = errors(x) != errorsAhead;
            Due.is("an ERROR is counted once", errors(x) - errorsAhead, error ? 1 : 0);
            if (error) {
                Due.is("an ERROR is LOW - 1 to LOW - 5", answer <= Due.BEYOND && answer >= Due.KIND ? 1 : 0, 1);
            }
            boolean clearsAlways = call.getName().equals("check");
            if ((!error || clearsAlways) && !call.getName().equals("told")) {
                String told = "run " + seed + ", " + call.getName() + Arrays.toString(values);
                Due.is(told, (Integer) call.invoke(twin, values), answer);
            }
        }
    }

    private static long errors(GorgeWire x) {
        long sum = 0;
        for (int k = 1; k <= 5; k++) {
            sum += x.told(k);
        }
        return sum;
    }

    private static Object[] values(Method call, Random random) {
        Class<?>[] types = call.getParameterTypes();
        Object[] values = new Object[types.length];
        for (int i = 0; i < types.length; i++) {
            values[i] = types[i] == long.class ? (Object) word(random) : (Object) number(random);
        }
        return values;
    }

    private static Long word(Random random) {
        long word = 0;
        for (int i = 0; i < 8; i++) {
            word = word << 8 | SIGNS.charAt(random.nextInt(SIGNS.length()));
        }
        return random.nextInt(20) == 0 ? random.nextLong() : word;
    }

    private static Integer number(Random random) {
        switch (random.nextInt(10)) {
            case 0: return EDGES[random.nextInt(EDGES.length)];
            case 1: return random.nextInt();
            case 2: return random.nextInt(2000) - 500;
            case 3: case 4: return random.nextInt(250);
            default: return random.nextInt(9);
        }
    }
}
