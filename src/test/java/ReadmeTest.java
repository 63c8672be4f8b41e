import java.io.IOException;
import java.lang.reflect.InvocationTargetException;
import java.lang.reflect.Method;
import java.nio.file.Files;
import java.nio.file.Path;
import java.util.Map;
import java.util.TreeMap;
import java.util.regex.Matcher;
import java.util.regex.Pattern;

/** That README.md tells the truth: its example answers so, and its tables name each call as it is. */
public final class ReadmeTest {
    private static final Pattern WRITTEN = Pattern.compile("\"(\\w+)\"\\.toCharArray");
    private static final Pattern CALL = Pattern.compile("shies\\.(\\w+)\\(([^)]*)\\);\\s*// (-?\\d+)");
    private static final Pattern ROW = Pattern.compile("(?m)^\\| `(\\w+)\\(([^)]*)\\)`");
    private static final int CALLS_PROMISED = 30;
    private static final Checks CHECKS = new Checks();

    public static void main(String[] args) throws IOException, ReflectiveOperationException {
        String readme = Files.readString(Path.of("README.md"));
        Map<String, Method> calls = new TreeMap<>();
        for (Method method : CoconutShies.class.getDeclaredMethods()) {
            if (method.getModifiers() == java.lang.reflect.Modifier.PUBLIC) {
                calls.put(method.getName(), method);
            }
        }
        CHECKS.due("calls of the face", calls.size(), CALLS_PROMISED);
        exampleAnswersSo(readme.substring(readme.indexOf("```java")), calls);
        tablesNameEachCall(readme, calls);
        CHECKS.end("ReadmeTest");
    }

    private static void exampleAnswersSo(String example, Map<String, Method> calls)
            throws IllegalAccessException, InvocationTargetException {
        Matcher text = WRITTEN.matcher(example);
        CHECKS.due("a text is written, 1 if so", text.find() ? 1 : 0, 1);
        CoconutShies shies = new CoconutShies();
        Checks.tell(shies, text.group(1));
        Matcher call = CALL.matcher(example.substring(0, example.indexOf("```", 3)));
        while (call.find()) {
            Method method = calls.get(call.group(1));
            Object answer = method.invoke(shies, argumentsOf(method, call.group(2)));
            CHECKS.due(call.group(), ((Number) answer).longValue(), Long.parseLong(call.group(3)));
        }
    }

    private static Object[] argumentsOf(Method method, String told) {
        String[] words = told.isEmpty() ? new String[0] : told.split(", ");
        Class<?>[] types = method.getParameterTypes();
        Object[] all = new Object[types.length];
        for (int i = 0; i < all.length; i++) {
            if (types[i] == boolean.class) {
                all[i] = Boolean.valueOf(words[i]);
            } else if (types[i] == long.class) {
                all[i] = Long.valueOf(words[i]);
            } else {
                all[i] = Integer.valueOf(words[i]);
            }
        }
        return all;
    }

    private static void tablesNameEachCall(String readme, Map<String, Method> calls) {
        Matcher row = ROW.matcher(readme);
        int rows = 0;
        while (row.find()) {
            Method method = calls.get(row.group(1));
            int told = row.group(2).isEmpty() ? 0 : row.group(2).split(", ").length;
            CHECKS.due(row.group(), told, method == null ? -1 : method.getParameterCount());
            rows++;
        }
        CHECKS.due("calls in the tables", rows, CALLS_PROMISED);
    }
}
