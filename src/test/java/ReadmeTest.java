import java.io.IOException;
import java.lang.reflect.Method;
import java.nio.file.Files;
import java.nio.file.Path;
import java.util.HashMap;
import java.util.Map;
import java.util.regex.Matcher;
import java.util.regex.Pattern;

/** Makes the calls of the example in README.md, as they stand there, and compares what each is told to answer. */
public final class ReadmeTest {
    private static final Pattern CALL = Pattern.compile("(?:int (\\w+) = )?lanes\\.(\\w+)\\((.*)\\);\\s*// (-?\\d+)(?::.*)?");

    private final Due due = new Due();
    private final SkyLanes lanes = new SkyLanes();
    private final Map<String, Integer> named = new HashMap<>();
    private int calls = 0;

    public static void main(String[] args) throws IOException, ReflectiveOperationException {
        ReadmeTest t = new ReadmeTest();
        boolean inside = false;
        for (String line : Files.readAllLines(Path.of("README.md"))) {
            if (line.startsWith("```")) {
                inside = line.equals("```java");
            } else if (inside) {
                t.oneLine(line);
            }
        }
        t.due.is("README.md has an example", t.calls > 0, true);
        t.due.end();
    }

    private void oneLine(String line) throws ReflectiveOperationException {
        if (line.isBlank() || line.startsWith("// ") || line.equals("SkyLanes lanes = new SkyLanes();")) {
            return;
        }
        Matcher m = CALL.matcher(line);
        due.is("README.md, a call and its answer: " + line, m.matches(), true);
        if (m.matches()) {
            int got = answer(m.group(2), m.group(3));
            due.is("README.md: " + line, got, Integer.parseInt(m.group(4)));
            if (m.group(1) != null) {
                named.put(m.group(1), got);
            }
        }
    }

    private int answer(String name, String told) throws ReflectiveOperationException {
        calls++;
        String[] parts = told.isEmpty() ? new String[0] : told.split(", ");
        Object[] numbers = new Object[parts.length];
        Class<?>[] types = new Class<?>[parts.length];
        for (int i = 0; i < parts.length; i++) {
            numbers[i] = named.containsKey(parts[i]) ? named.get(parts[i]) : Integer.valueOf(parts[i]);
            types[i] = int.class;
        }
        Method method = SkyLanes.class.getMethod(name, types);
        return (int) method.invoke(lanes, numbers);
    }
}
