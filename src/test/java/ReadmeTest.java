import java.io.IOException;
import java.lang.reflect.InvocationTargetException;
import java.lang.reflect.Method;
import java.nio.file.Files;
import java.nio.file.Path;
import java.util.Arrays;
import java.util.regex.Matcher;
import java.util.regex.Pattern;

/** README.md's example: each call in turn answers or throws what its comment begins with. */
final class ReadmeTest {
    private static final Check CHECK = new Check();
    private static final Pattern CALL =
            Pattern.compile("run\\.(\\w+)\\((.*)\\);\\s*// (?:(-?\\d+|\\w+Exception)\\b)?.*");
    private static final String START = "SortedRun run = new SortedRun();";

    public static void main(String[] args) throws IOException {
        SortedRun run = new SortedRun();
        int calls = 0;
        for (String line : Files.readAllLines(Path.of("README.md"))) {
            Matcher call = CALL.matcher(line);
            if (call.matches()) {
                String due = call.group(3) == null ? "null" : call.group(3);
                CHECK.same(line, due, answer(run, call.group(1), call.group(2)));
                calls++;
            } else {
                CHECK.holds("has its answer: " + line, !line.startsWith("run."));
            }
        }
        CHECK.holds("one object", Files.readString(Path.of("README.md")).split(
                Pattern.quote(START), -1).length == 2);
        CHECK.holds("calls", calls > 0);
        everyMethodIsNamed();
        CHECK.end();
    }

    private static void everyMethodIsNamed() throws IOException {
        String readme = Files.readString(Path.of("README.md"));
        for (Method method : SortedRun.class.getMethods()) {
            if (method.getDeclaringClass() == SortedRun.class) {
                String name = method.getName();
                CHECK.holds(name + " in the example", readme.contains("\nrun." + name + "("));
                CHECK.holds(name + " in the list", readme.contains("\n| `" + name + "("));
            }
        }
    }

    private static String answer(SortedRun run, String name, String arguments) {
        Method method = Arrays.stream(SortedRun.class.getMethods())
                .filter(m -> m.getName().equals(name)).findFirst().orElseThrow();
        try {
            return String.valueOf(method.invoke(run, values(method, arguments)));
        } catch (InvocationTargetException e) {
            return e.getCause().getClass().getSimpleName();
        } catch (IllegalAccessException e) {
            return e.toString();
        }
    }

    private static Object[] values(Method method, String arguments) {
        Class<?>[] types = method.getParameterTypes();
        String[] texts = arguments.isEmpty() ? new String[0] : arguments.split(", ");
        Object[] values = new Object[texts.length];
        for (int i = 0; i < texts.length; i++) {
            values[i] = types[i] == long.class ? (Object) Long.valueOf(texts[i].replace("L", ""))
                    : (Object) Integer.valueOf(texts[i]);
        }
        return values;
    }
}
