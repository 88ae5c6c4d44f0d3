import java.io.IOException;
import java.lang.reflect.Method;
import java.lang.reflect.Modifier;
import java.nio.file.Files;
import java.nio.file.Path;
import java.util.Map;
import java.util.regex.Matcher;
import java.util.regex.Pattern;

/** The example of README.md answers what it says there, and every method of the face is told. */
public final class ReadmeTest {
    private static final Pattern MADE = Pattern.compile("new BitRotStore\\((\\d+), (\\d+)\\);");
    private static final Pattern CALL = Pattern.compile("(?m)^store\\.(\\w+)\\(([^)]*)\\); +// ([^:\n]+)");
    private static final Map<String, Integer> CONSTANTS = Map.of(
        "CRASHED", BitRotStore.CRASHED, "FULL", BitRotStore.FULL, "BAD", BitRotStore.BAD);
    private static final int FEWEST_CALLS = 10;

    private final Checks checks = new Checks("ReadmeTest");
    private final String text;

    private ReadmeTest(String text) {
        this.text = text;
    }

    public static void main(String[] args) throws IOException, ReflectiveOperationException {
        ReadmeTest test = new ReadmeTest(Files.readString(Path.of("README.md")));
        test.example();
        test.table();
        test.constants();
        test.checks.holds("how to run the tests", test.text.contains(".ci/run"));
        test.checks.end();
    }

    private void example() throws ReflectiveOperationException {
        Matcher made = MADE.matcher(text);
        checks.holds("the example makes a store", made.find());
        BitRotStore store = new BitRotStore(Integer.parseInt(made.group(1)), Integer.parseInt(made.group(2)));
        Matcher call = CALL.matcher(text);
        int calls = 0;
        while (call.find()) {
            calls++;
            Object due = CONSTANTS.get(call.group(3).trim());
            String want = due == null ? call.group(3).trim() : due.toString();
            String got = String.valueOf(answer(store, call.group(1), call.group(2)));
            checks.holds(call.group() + ": answered " + got, got.equals(want));
        }
        checks.holds("the example has calls", calls >= FEWEST_CALLS);
    }

    private static Object answer(BitRotStore store, String name, String list) throws ReflectiveOperationException {
        String[] texts = list.isEmpty() ? new String[0] : list.split(", ");
        Object[] arguments = new Object[texts.length];
        Class<?>[] types = new Class<?>[texts.length];
        for (int i = 0; i < texts.length; i++) {
            arguments[i] = Integer.valueOf(texts[i]);
            types[i] = int.class;
        }
        return BitRotStore.class.getMethod(name, types).invoke(store, arguments);
    }

    private void table() {
        for (Method method : BitRotStore.class.getDeclaredMethods()) {
            if (Modifier.isPublic(method.getModifiers())) {
                Pattern row = Pattern.compile("(?m)^\\|.*`" + method.getName() + "\\([^|]*\\|[^|]+\\|$");
                checks.holds("the table tells of " + method.getName(), row.matcher(text).find());
            }
        }
    }

    private void constants() {
        CONSTANTS.forEach((name, number) ->
            checks.holds("what " + name + " is", text.contains("`" + name + "` (" + number + ")")));
    }
}
