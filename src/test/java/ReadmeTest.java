import java.io.File;
import java.io.IOException;
import java.lang.reflect.Method;
import java.lang.reflect.Modifier;
import java.nio.file.Files;
import java.nio.file.Path;
import java.util.regex.Matcher;
import java.util.regex.Pattern;

/** README.md tells how to use the class: what it tells must be so, and leave no call out. */
public final class ReadmeTest {
    private static final Pattern EXAMPLE_CALL =
        Pattern.compile("(?m)^cabinet\\.(\\w+)\\(([-\\d, ]*)\\);\\s+// ([-\\w]+): ");
    private static final Pattern EXAMPLE_LINE = Pattern.compile("(?m)^cabinet\\.");

    public static void main(String[] args) throws IOException, ReflectiveOperationException {
        String readme = Files.readString(Path.of("README.md"));
        exampleAnswersAsItSays(readme);
        everyCallIsListedOnce(readme);
        everyTestIsListedOnce(readme);
        Checks.end();
    }

    private static void exampleAnswersAsItSays(String readme) throws ReflectiveOperationException {
        TypeCabinet cabinet = new TypeCabinet();
        Matcher call = EXAMPLE_CALL.matcher(readme);
        int calls = 0;
        while (call.find()) {
            calls++;
            String got = String.valueOf(answer(cabinet, call.group(1), call.group(2)));
            Checks.due("README: " + call.group(1) + "(" + call.group(2) + ")", got, call.group(3));
        }
        Checks.due("README: whether it has an example", calls > 0, true);
        long lines = EXAMPLE_LINE.matcher(readme).results().count();
        Checks.due("README: calls of the example with an answer beside them", calls, lines);
    }

    private static Object answer(TypeCabinet cabinet, String name, String arguments)
            throws ReflectiveOperationException {
        String[] texts = arguments.isBlank() ? new String[0] : arguments.split(", ");
        Class<?>[] types = new Class<?>[texts.length];
        Object[] values = new Object[texts.length];
        for (int i = 0; i < texts.length; i++) {
            types[i] = int.class;
            values[i] = Integer.valueOf(texts[i]);
        }
        return TypeCabinet.class.getMethod(name, types).invoke(cabinet, values);
    }

    private static void everyCallIsListedOnce(String readme) {
        for (Method one : TypeCabinet.class.getDeclaredMethods()) {
            if (Modifier.isPublic(one.getModifiers())) {
                Pattern row = Pattern.compile("(?m)^\\| `" + one.getName() + "\\(([^)]*)\\)` \\|");
                Matcher found = row.matcher(readme);
                boolean isListed = found.find();
                Checks.due("README: whether it lists " + one.getName(), isListed, true);
                if (isListed) {
                    String named = found.group(1);
                    int parameters = named.isEmpty() ? 0 : named.split(", ").length;
                    Checks.due("README: parameters of " + one.getName(),
                        parameters, one.getParameterCount());
                    Checks.due("README: another row of " + one.getName(), found.find(), false);
                }
            }
        }
    }

    private static void everyTestIsListedOnce(String readme) {
        File[] tests = new File("src/test/java").listFiles(
            (directory, name) -> name.endsWith("Test.java"));
        Checks.due("whether there are tests", tests != null && tests.length > 0, true);
        for (File test : tests == null ? new File[0] : tests) {
            String name = test.getName().replace(".java", "");
            Matcher row = Pattern.compile("(?m)^\\| `" + name + "` \\|").matcher(readme);
            Checks.due("README: rows of " + name, row.results().count(), 1);
        }
    }
}
