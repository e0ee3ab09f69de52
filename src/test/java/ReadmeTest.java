import java.io.IOException;
import java.lang.reflect.InvocationTargetException;
import java.lang.reflect.Method;
import java.nio.file.Files;
import java.nio.file.Path;
import java.util.regex.Matcher;
import java.util.regex.Pattern;

/** Every call in README.md's examples answers what stands behind it there. */
public final class ReadmeTest {
    private static final Pattern CALL =
        Pattern.compile("disc\\.(\\w+)\\(([^)]*)\\);\\s+// (-?\\d+|true|false)\\b.*");
    private static final String NEW_OBJECT = "OrderedDisc disc = new OrderedDisc();";

    private static final Check check = new Check();

    private static Method named(String name) {
        for (Method m : OrderedDisc.class.getDeclaredMethods()) {
            if (m.getName().equals(name)) {
                return m;
            }
        }
        throw new IllegalArgumentException("no method " + name);
    }

    private static Object argument(Class<?> type, String text) {
        if (type == boolean.class) {
            return Boolean.parseBoolean(text);
        }
        if (type == long.class) {
            return Long.parseLong(text);
        }
        return Integer.parseInt(text);
    }

    private static String answer(OrderedDisc disc, String name, String list) throws IllegalAccessException {
        Method method = named(name);
        Class<?>[] types = method.getParameterTypes();
        String[] texts = list.isEmpty() ? new String[0] : list.split(", ");
        Object[] arguments = new Object[texts.length];
        for (int i = 0; i < texts.length; i++) {
            arguments[i] = argument(types[i], texts[i]);
        }
        try {
            return String.valueOf(method.invoke(disc, arguments));
        } catch (InvocationTargetException e) {
            return e.getCause().toString();
        }
    }

    public static void main(String[] args) throws IOException, IllegalAccessException {
        OrderedDisc disc = null;
        boolean inExample = false;
        int calls = 0;
        int lineNumber = 0;
        for (String line : Files.readAllLines(Path.of("README.md"))) {
            lineNumber++;
            check.at("README.md, line " + lineNumber);
            if (line.startsWith("```")) {
                inExample = line.equals("```java");
            } else if (inExample && line.equals(NEW_OBJECT)) {
                disc = new OrderedDisc();
            } else if (inExample) {
                Matcher call = CALL.matcher(line);
                boolean told = call.matches();
                check.is("a call with its answer: " + line, told, true);
                if (told) {
                    calls++;
                    check.isText(line, answer(disc, call.group(1), call.group(2)), call.group(3));
                }
            }
        }
        check.at("README.md");
        check.is("has calls", calls >= 20, true);
        check.finish();
    }
}
