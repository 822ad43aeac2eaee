import java.lang.reflect.Method;
import java.lang.reflect.Modifier;
import java.nio.file.Files;
import java.nio.file.Path;
import java.util.HashMap;
import java.util.Map;
import java.util.regex.Matcher;
import java.util.regex.Pattern;

/** README.md tells the truth: its example answers as it says, and it names every call. Argument: the class's file. */
public final class ReadmeTest {
    private static final Pattern CALL = Pattern.compile("(?m)^view\\.(\\w+)\\((.*?)\\);\\s+// (-?\\w+)(?::.*)?$");
    private static final Map<String, Integer> ANSWERS =
        Map.of("BAD", ChunkView.BAD, "STATE", ChunkView.STATE, "FULL", ChunkView.FULL, "NONE", ChunkView.NONE);

    private ReadmeTest() {
    }

    private static Map<String, Method> face() {
        Map<String, Method> face = new HashMap<>();
        for (Method m : ChunkView.class.getDeclaredMethods()) {
            if (Modifier.isPublic(m.getModifiers())) {
                face.put(m.getName(), m);
            }
        }
        return face;
    }

    private static int number(String word) {
        if (word.equals("'\\n'")) {
            return 10;
        }
        return word.startsWith("'") ? word.charAt(1) : Integer.parseInt(word);
    }

    private static Object[] numbers(String words) {
        if (words.isEmpty()) {
            return new Object[0];
        }
        String[] each = words.split(", ");
        Object[] numbers = new Object[each.length];
        for (int i = 0; i < each.length; i++) {
            numbers[i] = number(each[i]);
        }
        return numbers;
    }

    private static long answer(String word) {
        return ANSWERS.containsKey(word) ? ANSWERS.get(word) : Long.parseLong(word);
    }

    private static void example(String page) throws ReflectiveOperationException {
        Map<String, Method> face = face();
        ChunkView view = new ChunkView();
        Matcher call = CALL.matcher(page);
        int calls = 0;
        while (call.find()) {
            Object got = face.get(call.group(1)).invoke(view, numbers(call.group(2)));
            Due.due(call.group(1) + "(" + call.group(2) + ")", ((Number) got).longValue(), answer(call.group(3)));
            calls++;
        }
        Due.due("calls of the example that were found", calls, page.lines().filter(l -> l.startsWith("view.")).count());
        Due.holds("there is an example", calls > 0);
    }

    public static void main(String[] args) throws Exception {
        Path root = Path.of(args[0]).resolve("../../../..").normalize();
        String page = Files.readString(root.resolve("README.md"));
        example(page);
        for (String name : face().keySet()) {
            Due.holds("README.md names " + name, page.contains("`" + name + "`"));
        }
        Due.holds("README.md says how to run the tests", page.contains(".ci/run"));
        Due.ends();
    }
}
