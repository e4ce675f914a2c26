import java.lang.reflect.Method;
import java.nio.file.Files;
import java.nio.file.Path;
import java.util.HashMap;
import java.util.Map;
import java.util.TreeSet;
import java.util.regex.Matcher;
import java.util.regex.Pattern;

/** README.md's example, called as it stands there: each line answers what its comment tells ahead of the colon. */
public final class ReadmeTest {
    private static final String FIRST_LINE = "WineCellar x = new WineCellar();";
    private static final Pattern CALL =
            Pattern.compile("(?:(?:int|long) (\\w+) = )?x\\.(\\w+)\\((.*)\\);\\s+// (-?\\d+): .+");

    private final WineCellar x = new WineCellar();
    private final Map<String, Long> names = new HashMap<>();
    private final TreeSet<String> shown = new TreeSet<>();

    public static void main(String[] args) throws Exception {
        ReadmeTest test = new ReadmeTest();
        test.example();
        test.showsEachCall();
        Checks.end();
    }

    private void example() throws Exception {
        boolean within = false;
        for (String line : Files.readAllLines(Path.of("README.md"))) {
            if (line.startsWith("```")) {
                within = line.equals("```java");
            } else if (within && !line.isBlank() && !line.startsWith(FIRST_LINE)) {
                call(line);
            }
        }
    }

    private void call(String line) throws Exception {
        Matcher parts = CALL.matcher(line);
        Checks.due("a call with its answer: " + line, parts.matches() ? 1 : 0, 1);
        if (!parts.matches()) {
            return;
        }
        long got = answer(parts.group(2), parts.group(3).isEmpty() ? new String[0] : parts.group(3).split(", "));
        Checks.due("README.md: " + line, got, Long.parseLong(parts.group(4)));
        shown.add(parts.group(2));
        if (parts.group(1) != null) {
            names.put(parts.group(1), got);
        }
    }

    private long answer(String name, String[] texts) throws Exception {
        for (Method method : WineCellar.class.getDeclaredMethods()) {
            Class<?>[] types = method.getParameterTypes();
            if (!method.getName().equals(name) || types.length != texts.length) {
                continue;
            }
            Object[] numbers = new Object[texts.length];
            for (int i = 0; i < texts.length; i++) {
                long number = names.containsKey(texts[i]) ? names.get(texts[i]) : Long.decode(texts[i]);
                numbers[i] = types[i] == long.class ? (Object) number : (Object) (int) number;
            }
            return ((Number) method.invoke(x, numbers)).longValue();
        }
        throw new IllegalArgumentException("no such call: " + name);
    }

    private void showsEachCall() {
        for (Method method : WineCellar.class.getDeclaredMethods()) {
            if (java.lang.reflect.Modifier.isPublic(method.getModifiers())) {
                Checks.due("README.md shows " + method.getName(), shown.contains(method.getName()) ? 1 : 0, 1);
            }
        }
    }
}
