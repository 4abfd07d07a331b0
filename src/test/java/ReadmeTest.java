import java.io.IOException;
import java.lang.reflect.Method;
import java.lang.reflect.Modifier;
import java.nio.file.Files;
import java.nio.file.Path;
import java.util.regex.Matcher;
import java.util.regex.Pattern;

/** README.md: its example answers as it says there, and it names every call. */
public final class ReadmeTest {
    private static final Pattern CALL = Pattern.compile("ways\\.(\\w+)\\(([-0-9, ]*)\\); +// (\\S+).*");
    private static final int LEAST_CALLS = 20;
    private static final Due due = new Due();

    public static void main(String[] args) throws IOException, ReflectiveOperationException {
        String readme = Files.readString(Path.of("README.md"));
        example(readme);
        everyCall(readme);
        due.end();
    }

    private static void example(String readme) throws ReflectiveOperationException {
        WaysTold ways = new WaysTold();
        int calls = 0;
        for (String line : readme.split("\n")) {
            Matcher call = CALL.matcher(line);
            if (call.matches()) {
                due.text("README: " + line, answer(ways, call.group(1), call.group(2)), call.group(3));
                calls++;
            } else {
                due.no("README: a call without its answer: " + line, line.startsWith("ways."));
            }
        }
        due.yes("README: it has an example", calls >= LEAST_CALLS);
    }

    private static String answer(WaysTold ways, String name, String inBrackets)
        throws ReflectiveOperationException {
        String[] texts = inBrackets.isBlank() ? new String[0] : inBrackets.split(",");
        Object[] arguments = new Object[texts.length];
        Class<?>[] types = new Class<?>[texts.length];
        for (int i = 0; i < texts.length; i++) {
            arguments[i] = Integer.valueOf(texts[i].trim());
            types[i] = int.class;
        }
        return String.valueOf(WaysTold.class.getMethod(name, types).invoke(ways, arguments));
    }

    private static void everyCall(String readme) {
        for (Method method : WaysTold.class.getDeclaredMethods()) {
            if (Modifier.isPublic(method.getModifiers())) {
                due.yes("README: it names " + method.getName(), readme.contains("| `" + method.getName() + "("));
            }
        }
    }
}
