import java.io.IOException;
import java.lang.reflect.Method;
import java.lang.reflect.Modifier;
import java.nio.file.Files;
import java.nio.file.Path;
import java.util.Map;
import java.util.TreeMap;
import java.util.regex.Matcher;
import java.util.regex.Pattern;

/** The calls in README.md answer what it says, and it tells of every method and every test. */
public final class ReadmeTest {
    private static final Due due = new Due();
    private static final Pattern EXAMPLE = Pattern.compile("(?s)```java\n(.*?)```");
    private static final Pattern CALL = Pattern.compile("x\\.(\\w+)\\((.*)\\);\\s*// (-?\\d+): \\S.*");

    public static void main(String[] args) throws IOException, ReflectiveOperationException {
        String readme = Files.readString(Path.of("README.md"));
        Map<String, Method> methods = face();
        example(readme, methods);
        for (String name : methods.keySet()) {
            due.holds("README.md tells of " + name + "()", readme.contains("`" + name + "("));
        }
        tests(readme);
        due.end();
    }

    private static Map<String, Method> face() {
        Map<String, Method> methods = new TreeMap<>();
        for (Method method : DrillCores.class.getDeclaredMethods()) {
            if (Modifier.isPublic(method.getModifiers())) {
                methods.put(method.getName(), method);
            }
        }
        return methods;
    }

    private static void example(String readme, Map<String, Method> methods) throws ReflectiveOperationException {
        Matcher block = EXAMPLE.matcher(readme);
        due.holds("README.md has an example", block.find());
        String[] lines = block.group(1).split("\n");
        due.holds("it makes an object first", lines[0].equals("DrillCores x = new DrillCores();"));
        DrillCores x = new DrillCores();
        for (int i = 1; i < lines.length; i++) {
            Matcher call = CALL.matcher(lines[i]);
            boolean isCall = call.matches() && methods.containsKey(call.group(1));
            due.holds("a call with its answer: " + lines[i], isCall);
            if (isCall) {
                due.is(lines[i], Long.parseLong(call.group(3)), answer(x, methods.get(call.group(1)), call.group(2)));
            }
        }
        due.holds("it calls something", lines.length > 1);
    }

    private static long answer(DrillCores x, Method method, String list) throws ReflectiveOperationException {
        String[] words = list.isEmpty() ? new String[0] : list.split(", ");
        Class<?>[] types = method.getParameterTypes();
        Object[] values = new Object[words.length];
        for (int i = 0; i < words.length; i++) {
            boolean isLong = i < types.length && types[i] == long.class;
            values[i] = isLong ? (Object) Long.valueOf(words[i].replace("L", "")) : (Object) Integer.valueOf(words[i]);
        }
        return ((Number) method.invoke(x, values)).longValue();
    }

    private static void tests(String readme) throws IOException {
        try (var files = Files.newDirectoryStream(Path.of("src/test/java"), "*Test.java")) {
            for (Path file : files) {
                String name = file.getFileName().toString().replace(".java", "");
                due.holds("README.md tells of " + name, readme.contains("`" + name + "`"));
            }
        }
    }
}
