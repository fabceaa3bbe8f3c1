import java.io.IOException;
import java.lang.reflect.Method;
import java.lang.reflect.Modifier;
import java.nio.file.Files;
import java.nio.file.Path;
import java.util.List;
import java.util.regex.Matcher;
import java.util.regex.Pattern;

/** README.md tells of every call, and its example answers what stands behind each line of it. */
public final class ReadmeTest {
    /** A call of the example with its arguments, and the answer that its comment tells. */
    private static final Pattern CALL = Pattern.compile("x\\.(\\w+)\\(([^)]*)\\);\\s*// (-?\\d+)\\b.*");

    public static void main(String[] args) throws IOException, ReflectiveOperationException {
        List<String> lines = Files.readAllLines(Path.of("README.md"));
        everyCallIsToldOf(String.join("\n", lines));
        theExampleAnswersWhatItSays(lines);
        theExamplesLoop();
        Due.end();
    }

    private static void everyCallIsToldOf(String text) {
        for (Method method : FieldTables.class.getDeclaredMethods()) {
            if (Modifier.isPublic(method.getModifiers())) {
                Due.holds("README.md tells of " + method.getName(), text.contains("`" + method.getName() + "("));
            }
        }
        Due.holds("README.md says how to run the tests", text.contains(".ci/run"));
    }

    private static void theExampleAnswersWhatItSays(List<String> lines) throws ReflectiveOperationException {
        FieldTables x = new FieldTables();
        int calls = 0;
        for (String line : lines) {
            Matcher found = CALL.matcher(line);
            if (found.find()) {
                calls++;
                Due.is("README.md: " + line, answer(x, found.group(1), found.group(2)), Long.parseLong(found.group(3)));
            }
        }
        Due.is("calls of the example", calls, 9);
    }

    private static long answer(FieldTables x, String name, String texts) throws ReflectiveOperationException {
        for (Method method : FieldTables.class.getDeclaredMethods()) {
            if (method.getName().equals(name)) {
                return ((Number) method.invoke(x, arguments(method, texts))).longValue();
            }
        }
        throw new IllegalArgumentException("no call " + name);
    }

    private static Object[] arguments(Method method, String texts) {
        Class<?>[] types = method.getParameterTypes();
        String[] parts = types.length == 0 ? new String[0] : texts.split(", ");
        Object[] arguments = new Object[types.length];
        for (int place = 0; place < types.length; place++) {
            String text = parts[place].equals("table") ? "1" : parts[place];
            if (types[place] == int.class) {
                arguments[place] = Integer.valueOf(text);
            } else {
                arguments[place] = Long.valueOf(text);
            }
        }
        return arguments;
    }

    /** The loop over the keys, at the state that the example's calls leave. */
    private static void theExamplesLoop() {
        FieldTables x = new FieldTables();
        int table = x.make();
        x.put(table, 3, 1, 3, 10);
        x.put(table, 5, 7, 2, 4);
        x.insert(table, 1, 3, 9);
        x.put(table, 3, 1, 0, 0);
        StringBuilder keys = new StringBuilder();
        for (int more = x.next(table, 0, 0); more == 1; more = x.next(table, x.cursorKind(), x.cursorNumber())) {
            keys.append(x.cursorNumber()).append(" of kind ").append(x.cursorKind()).append(", ");
        }
        Due.holds("the example's keys are not " + keys, keys.toString().equals("7 of kind 5, 2 of kind 3, "));
    }
}
