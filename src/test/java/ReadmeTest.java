import java.io.IOException;
import java.lang.reflect.Method;
import java.lang.reflect.Modifier;
import java.nio.charset.StandardCharsets;
import java.nio.file.Files;
import java.nio.file.Path;
import java.util.HashMap;
import java.util.Map;
import java.util.regex.Matcher;
import java.util.regex.Pattern;

/** The example of README.md: each call answers what its comment says, and it shows each call. */
public final class ReadmeTest {
    private static final Check CHECK = new Check("ReadmeTest");
    private static final Pattern CALL = Pattern.compile("(?:int (\\w+) = )?x\\.(\\w+)\\((.*?)\\);\\s+// (-?\\d+)(?::.*)?");

    public static void main(String[] args) throws IOException, ReflectiveOperationException {
        String text = Files.readString(Path.of("README.md"), StandardCharsets.UTF_8);
        example(text);
        table(text);
        CHECK.end();
    }

    private static void example(String text) throws ReflectiveOperationException {
        String[] lines = text.split("```java\n", 2)[1].split("```", 2)[0].split("\n");
        CHECK.due("the example makes an object", 0, lines[0].indexOf("EqualMethods x = new EqualMethods(3);"));
        EqualMethods x = new EqualMethods(3);
        Map<String, Integer> names = new HashMap<>();
        for (int i = 1; i < lines.length; i++) {
            Matcher call = CALL.matcher(lines[i]);
            if (call.matches()) {
                int answer = answer(x, call.group(2), call.group(3), names);
                CHECK.due(lines[i], Integer.parseInt(call.group(4)), answer);
                names.put(call.group(1), answer);
            } else {
                CHECK.due("a line that is no call: " + lines[i], 1, lines[i].isEmpty() ? 1 : 0);
            }
        }
        CHECK.due("calls of the example", 1, names.size() > 4 ? 1 : 0);
    }

    private static int answer(EqualMethods x, String name, String given, Map<String, Integer> names)
            throws ReflectiveOperationException {
        String[] words = given.isEmpty() ? new String[0] : given.split(", ");
        Object[] numbers = new Object[words.length];
        for (int i = 0; i < words.length; i++) {
            numbers[i] = names.containsKey(words[i]) ? names.get(words[i]) : Integer.valueOf(words[i]);
        }
        for (Method method : EqualMethods.class.getMethods()) {
            if (method.getName().equals(name) && method.getParameterCount() == words.length) {
                return (int) method.invoke(x, numbers);
            }
        }
        throw new NoSuchMethodException(name);
    }

    private static void table(String text) {
        for (Method method : EqualMethods.class.getDeclaredMethods()) {
            if (Modifier.isPublic(method.getModifiers())) {
                CHECK.due("README.md tells of " + method.getName(), 1, text.contains("\n| `" + method.getName() + "(") ? 1 : 0);
            }
        }
    }
}
