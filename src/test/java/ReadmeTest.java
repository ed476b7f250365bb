import java.io.IOException;
import java.lang.reflect.Method;
import java.nio.file.Files;
import java.nio.file.Path;
import java.util.regex.Matcher;
import java.util.regex.Pattern;

/** What README.md says of the class is so: its calls are made in their order and held against its answers. */
public final class ReadmeTest {
    private static final Pattern TEXT = Pattern.compile("String text = \"(\\w+)\";");
    private static final Pattern CALL = Pattern.compile("(?m)^x\\.(\\w+)\\(([^)]*)\\);\\s*// (-?\\d+):");
    private static final int FEWEST_CALLS = 20;

    private static final Checks c = new Checks();

    public static void main(String[] args) throws IOException, ReflectiveOperationException {
        String readme = Files.readString(Path.of(System.getProperty("thirstrow.readme", "README.md")));
        example(readme);
        everyCallIsTold(readme);
        c.holds("how the tests are run", readme.contains("\n    .ci/run\n"));
        c.end("ReadmeTest");
    }

    private static void example(String readme) throws ReflectiveOperationException {
        Matcher text = TEXT.matcher(readme);
        boolean told = text.find();
        c.holds("a text is told", told);
        if (!told) {
            return;
        }
        ThirstRow x = new ThirstRow();
        Checks.writeAll(x, text.group(1));
        int calls = 0;
        Matcher call = CALL.matcher(readme);
        while (call.find()) {
            c.due("x." + call.group(1) + "(" + call.group(2) + ")", answer(x, call.group(1), call.group(2)),
                Long.parseLong(call.group(3)));
            calls++;
        }
        c.holds("calls are told with their answers, found " + calls, calls >= FEWEST_CALLS);
    }

    private static long answer(ThirstRow x, String name, String told) throws ReflectiveOperationException {
        String[] parts = told.isBlank() ? new String[0] : told.split("\\s*,\\s*");
        Method method = methodOf(name);
        Object[] arguments = new Object[parts.length];
        for (int i = 0; i < parts.length; i++) {
            arguments[i] = argument(parts[i], method.getParameterTypes()[i]);
        }
        return ((Number) method.invoke(x, arguments)).longValue();
    }

    private static Method methodOf(String name) throws NoSuchMethodException {
        for (Method method : ThirstRow.class.getDeclaredMethods()) {
            if (method.getName().equals(name)) {
                return method;
            }
        }
        throw new NoSuchMethodException(name);
    }

    private static Object argument(String told, Class<?> type) {
        if (type == boolean.class) {
            return Boolean.valueOf(told);
        }
        if (type == long.class) {
            return Long.valueOf(told.replace("L", ""));
        }
        return Integer.valueOf(told);
    }

    private static void everyCallIsTold(String readme) {
        for (Method method : ThirstRow.class.getDeclaredMethods()) {
            if (java.lang.reflect.Modifier.isPublic(method.getModifiers())) {
                c.holds("told in the table: " + method.getName(), readme.contains("`" + method.getName() + "`"));
            }
        }
    }
}
