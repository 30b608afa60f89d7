import java.lang.reflect.Method;
import java.lang.reflect.Modifier;
import java.nio.file.Files;
import java.nio.file.Path;
import java.util.regex.Matcher;
import java.util.regex.Pattern;

/** README.md's example answers what stands behind each of its calls, and its table names the whole face. */
public final class ReadmeTest {
    private static final Pattern CALL = Pattern.compile("store\\.(\\w+)\\((.*?)\\);\\s*// (-?\\w+)");
    private static final Checks checks = new Checks();

    public static void main(String[] args) throws Exception {
        String text = Files.readString(Path.of("README.md"));
        example(text.substring(text.indexOf("```java"), text.indexOf("```\n\n|")));
        face(text);
        checks.finish();
    }

    private static void example(String block) throws Exception {
        StoreLog3 store = new StoreLog3(16);
        int calls = 0;
        for (String line : block.split("\n")) {
            Matcher call = CALL.matcher(line);
            if (call.find()) {
                calls++;
                checks.due(line.trim(), answer(store, call.group(1), call.group(2)), number(call.group(3)));
            } else {
                checks.due("a call without its answer: " + line, line.startsWith("store."), false);
            }
        }
        checks.due("the example has calls", calls > 10, true);
    }

    private static long answer(StoreLog3 store, String name, String arguments) throws Exception {
        String[] words = arguments.isEmpty() ? new String[0] : arguments.split(", ");
        Class<?>[] types = new Class<?>[words.length];
        Object[] numbers = new Object[words.length];
        for (int n = 0; n < words.length; n++) {
            types[n] = int.class;
            numbers[n] = number(words[n]);
        }
        return (Integer) StoreLog3.class.getMethod(name, types).invoke(store, numbers);
    }

    private static int number(String word) throws Exception {
        if (word.matches("-?\\d+")) {
            return Integer.parseInt(word);
        }
        return StoreLog3.class.getField(word.replace("StoreLog3.", "")).getInt(null);
    }

    private static void face(String text) {
        for (Method method : StoreLog3.class.getDeclaredMethods()) {
            if (Modifier.isPublic(method.getModifiers())) {
                checks.due("README.md names " + method.getName(), text.contains("`" + method.getName() + "("), true);
            }
        }
    }
}
