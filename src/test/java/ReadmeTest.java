import java.io.IOException;
import java.lang.reflect.Method;
import java.lang.reflect.Modifier;
import java.nio.file.Files;
import java.nio.file.Path;
import java.util.List;
import java.util.regex.Matcher;
import java.util.regex.Pattern;

/** README.md says how to use the class: its example is answered as it says, and each call of the face is named. */
public final class ReadmeTest {
    private static final String MADE = "BloodCircuitChannels x = new BloodCircuitChannels();";
    private static final Pattern CALL = Pattern.compile("x\\.(\\w+)\\(([-\\d, ]*)\\); +// (true|false|-?\\d+)(: .+)?");
    private static final Checks CHECKS = new Checks();

    public static void main(String[] args) throws IOException, ReflectiveOperationException {
        List<String> readme = Files.readAllLines(Path.of("README.md"));
        exampleIsAnsweredAsItSays(readme);
        eachCallIsNamed(String.join("\n", readme));
        CHECKS.end();
    }

    private static void exampleIsAnsweredAsItSays(List<String> readme) throws ReflectiveOperationException {
        int begin = readme.indexOf("```java") + 1;
        CHECKS.due("README: an example that makes an object", begin > 0 && readme.get(begin).equals(MADE), true);
        BloodCircuitChannels x = new BloodCircuitChannels();
        int calls = 0;
        for (int line = begin + 1; line < readme.size() && !readme.get(line).equals("```"); line++) {
            Matcher call = CALL.matcher(readme.get(line));
            boolean isCall = call.matches();
            CHECKS.due("README: a call with its answer: " + readme.get(line), isCall, true);
            if (isCall) {
                calls++;
                String got = String.valueOf(answer(x, call.group(1), call.group(2)));
                CHECKS.due("README: " + readme.get(line) + " answered " + got, got.equals(call.group(3)), true);
            }
        }
        CHECKS.due("README: calls in the example", calls > 0, true);
    }

    private static Object answer(BloodCircuitChannels x, String name, String written)
            throws ReflectiveOperationException {
        String[] parts = written.isEmpty() ? new String[0] : written.split(", ");
        Class<?>[] types = new Class<?>[parts.length];
        Object[] values = new Object[parts.length];
        for (int k = 0; k < parts.length; k++) {
            types[k] = int.class;
            values[k] = Integer.valueOf(parts[k]);
        }
        return BloodCircuitChannels.class.getMethod(name, types).invoke(x, values);
    }

    private static void eachCallIsNamed(String readme) {
        for (Method method : BloodCircuitChannels.class.getDeclaredMethods()) {
            if (Modifier.isPublic(method.getModifiers())) {
                CHECKS.due("README: names " + method.getName(), readme.contains("`" + method.getName() + "("), true);
            }
        }
    }
}
