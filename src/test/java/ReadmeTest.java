import java.lang.reflect.Method;
import java.lang.reflect.Modifier;
import java.nio.file.Files;
import java.nio.file.Path;
import java.util.regex.Matcher;
import java.util.regex.Pattern;

/** README.md: its example answers as it says, and it names every call of the face and every ERROR. */
public final class ReadmeTest {
    private static final Pattern CALL = Pattern.compile("wire\\.(\\w+)\\(([^)]*)\\);\\s*// (-?\\d+)");
    private static final String[] ERRORS = {"BEYOND", "NONE", "STATE", "FULL", "KIND"};

    public static void main(String[] args) throws Exception {
        String page = Files.readString(Path.of("README.md"));
        example(page);
        namesAll(page);
        Due.end();
    }

    private static void example(String page) throws Exception {
        GorgeWire x = new GorgeWire();
        Matcher lines = CALL.matcher(page);
        int calls = 0;
        while (lines.find()) {
            Method call = callOf(lines.group(1));
            String[] given = lines.group(2).split(", ");
            Object[] values = new Object[call.getParameterCount()];
            for (int i = 0; i < values.length; i++) {
                long value = Long.decode(given[i].replace("L", ""));
                values[i] = call.getParameterTypes()[i] == long.class ? (Object) value : (Object) (int) value;
            }
            Due.is(lines.group(), (Integer) call.invoke(x, values), Long.parseLong(lines.group(3)));
            calls++;
        }
        Due.is("the example has calls: " + calls, calls >= 10 ? 1 : 0, 1);
    }

    private static Method callOf(String name) {
        for (Method method : GorgeWire.class.getDeclaredMethods()) {
            if (Modifier.isPublic(method.getModifiers()) && method.getName().equals(name)) {
                return method;
            }
        }
        throw new IllegalStateException("no call " + name);
    }

    private static void namesAll(String page) {
        for (Method method : GorgeWire.class.getDeclaredMethods()) {
            boolean left = Modifier.isPublic(method.getModifiers()) && !page.contains("`" + method.getName() + "`");
            Due.is(method.getName() + " is not named", left ? 1 : 0, 0);
        }
        for (int k = 1; k <= ERRORS.length; k++) {
            String row = "| " + k + " | " + (Due.LOW - k) + " | " + ERRORS[k - 1] + " |";
            Due.is(row, page.contains(row) ? 1 : 0, 1);
        }
    }
}
