import java.io.IOException;
import java.lang.reflect.Field;
import java.lang.reflect.Method;
import java.lang.reflect.Modifier;
import java.nio.charset.StandardCharsets;
import java.nio.file.Files;
import java.nio.file.Path;
import java.util.Arrays;
import java.util.List;
import java.util.Map;
import java.util.TreeMap;
import java.util.regex.Matcher;
import java.util.regex.Pattern;

/** The document's face, and the rules of LANGUAGE.md that a look at the class and its text can tell. */
public final class FaceTest {
    private static final Check CHECK = new Check("FaceTest");
    private static final Path SOURCE = Path.of("src/main/java/EqualMethods.java");
    private static final Class<?> FACE = EqualMethods.class;

    public static void main(String[] args) throws IOException, IllegalAccessException {
        members();
        nestedClasses();
        words();
        lengths();
        CHECK.end();
    }

    private static void members() throws IllegalAccessException {
        Map<String, Integer> methods = new TreeMap<>(Map.of("method", 1, "op", 6, "clear", 2, "run", 4, "ran", 1,
                "told", 2, "rename", 2, "group", 2, "hold", 2, "first", 1));
        methods.putAll(Map.of("match", 1, "find", 2, "assume", 2, "drop", 0, "prove", 0, "why", 1, "count", 1));
        Map<String, Integer> constants = Map.of("NONE", -1, "UNKNOWN", -101, "OUTSIDE", -102, "STATE", -103, "ROOM", -104);
        CHECK.due("class is public and final", Modifier.PUBLIC | Modifier.FINAL, FACE.getModifiers());
        CHECK.due("constructors", 1, FACE.getDeclaredConstructors().length);
        CHECK.due("public constructors", 1, FACE.getConstructors().length);
        int seen = 0;
        for (Method method : FACE.getDeclaredMethods()) {
            if (!Modifier.isPrivate(method.getModifiers())) {
                seen++;
                CHECK.due(method + " is public, no more", Modifier.PUBLIC, method.getModifiers());
                CHECK.due(method + " answers int", 1, method.getReturnType() == int.class ? 1 : 0);
                CHECK.due(method + " takes ints", 1,
                        Arrays.stream(method.getParameterTypes()).allMatch(type -> type == int.class) ? 1 : 0);
                CHECK.due(method + " takes so many", methods.getOrDefault(method.getName(), -1), method.getParameterCount());
            } else {
                CHECK.due(method + " has a name of its own", 0, methods.containsKey(method.getName()) ? 1 : 0);
            }
            CHECK.due(method + " takes at most seven", 1, method.getParameterCount() <= 7 ? 1 : 0);
        }
        CHECK.due("methods of the face", methods.size(), seen);
        seen = 0;
        for (Field field : FACE.getDeclaredFields()) {
            if (!Modifier.isPrivate(field.getModifiers())) {
                seen++;
                CHECK.due(field + " is a constant of the face", constants.getOrDefault(field.getName(), 0), field.getInt(null));
                CHECK.due(field + " is public, static, final", Modifier.PUBLIC | Modifier.STATIC | Modifier.FINAL,
                        field.getModifiers());
            }
            if (Modifier.isStatic(field.getModifiers())) {
                CHECK.due(field + " is final", 1, Modifier.isFinal(field.getModifiers()) ? 1 : 0);
            }
        }
        CHECK.due("constants of the face", constants.size(), seen);
        fields(FACE);
    }

    private static void fields(Class<?> of) {
        long own = Arrays.stream(of.getDeclaredFields()).filter(field -> !Modifier.isStatic(field.getModifiers())).count();
        CHECK.due(of + " has some twenty fields at most", 1, own <= 20 ? 1 : 0);
    }

    private static void nestedClasses() {
        CHECK.due("at most some twelve classes", 1, FACE.getDeclaredClasses().length <= 11 ? 1 : 0);
        for (Class<?> nested : FACE.getDeclaredClasses()) {
            int modifiers = nested.getModifiers();
            CHECK.due(nested + " is static", 1, Modifier.isStatic(modifiers) ? 1 : 0);
            CHECK.due(nested + " is not of the face", 0, modifiers & (Modifier.PUBLIC | Modifier.PROTECTED));
            fields(nested);
            for (Method method : nested.getDeclaredMethods()) {
                CHECK.due(method + " takes at most seven", 1, method.getParameterCount() <= 7 ? 1 : 0);
            }
        }
    }

    private static void words() throws IOException {
        String text = Files.readString(SOURCE, StandardCharsets.ISO_8859_1);
        String code = text.replaceAll("(?s)/\\*.*?\\*/", "").replaceAll("//[^\n]*", "");
        Matcher matcher = Pattern.compile("\\b(throw|throws|try|catch|synchronized|assert|import|package|protected"
                + "|default ->|Object|\\w+Exact|equals|hashCode|toString)\\b|->|::").matcher(code);
        while (matcher.find()) {
            CHECK.due("the word " + matcher.group(), 0, 1);
        }
        int high = 0;
        for (int i = 0; i < text.length(); i++) {
            high = Math.max(high, text.charAt(i));
        }
        CHECK.due("plain characters", 1, high < 127 ? 1 : 0);
    }

    /** A method's lines: from the one that opens it to the brace that stands as far in as it. */
    private static void lengths() throws IOException {
        List<String> lines = Files.readAllLines(SOURCE, StandardCharsets.ISO_8859_1);
        int methods = 0;
        for (int from = 0; from < lines.size(); from++) {
            Matcher opens = Pattern.compile("( {4}| {8})[a-z].*\\) \\{").matcher(lines.get(from));
            if (opens.matches() && !lines.get(from).matches(" *(if|for|while|switch) .*")) {
                methods++;
                int to = from;
                while (!lines.get(to).equals(opens.group(1) + "}")) {
                    to++;
                }
                CHECK.due(lines.get(from).trim() + " is short", 1, to - from <= 60 ? 1 : 0);
            }
        }
        CHECK.due("methods were seen", 1, methods > 40 ? 1 : 0);
    }
}
