import java.io.IOException;
import java.lang.reflect.InvocationTargetException;
import java.lang.reflect.Method;
import java.nio.file.Files;
import java.nio.file.Path;
import java.util.TreeSet;
import java.util.regex.Matcher;
import java.util.regex.Pattern;

/** Every call of the example in README.md answers what stands behind it there. */
public final class ReadmeTest {
    private static final Pattern EXAMPLE = Pattern.compile("```java\n(.*?)```", Pattern.DOTALL);
    private static final Pattern CALL = Pattern.compile("x\\.(\\w+)\\((.*?)\\);(?: +// ([^ ]+)(?: .*)?)?");

    private final Check check = new Check();
    private final WeightOrder x = new WeightOrder();
    private final TreeSet<String> called = new TreeSet<>();

    public static void main(String[] args) throws IOException {
        Matcher example = EXAMPLE.matcher(Files.readString(Path.of("README.md")));
        ReadmeTest test = new ReadmeTest();
        test.check.due("true", "README.md has an example", "" + example.find());
        for (String line : example.group(1).split("\n")) {
            test.look(line);
        }
        test.check.due("[add, clear, compare, count, element, line, order, weight]", "the calls of the example",
                test.called.toString());
        test.check.end();
    }

    private void look(String line) {
        if (line.isEmpty() || line.equals("WeightOrder x = new WeightOrder();")) {
            return;
        }
        Matcher call = CALL.matcher(line);
        if (!call.matches()) {
            check.due("a call", "README.md", line);
            return;
        }
        called.add(call.group(1));
        String got = outcomeOf(methodOf(call.group(1)), call.group(2).split(", "));
        if (!call.group(1).equals("order")) {
            check.due(decimal(call.group(3)), "README.md: " + line, got);
        } else {
            check.due("null", "README.md: " + line, got);
        }
    }

    private static Method methodOf(String name) {
        for (Method method : WeightOrder.class.getMethods()) {
            if (method.getName().equals(name)) {
                return method;
            }
        }
        throw new IllegalStateException(name);
    }

    private String outcomeOf(Method method, String[] texts) {
        Object[] values = new Object[texts.length];
        for (int i = 0; i < texts.length; i++) {
            values[i] = valueOf(texts[i]);
        }
        try {
            return "" + method.invoke(x, values);
        } catch (InvocationTargetException e) {
            return e.getCause().getClass().getSimpleName();
        } catch (IllegalAccessException | IllegalArgumentException e) {
            return "no call of the face";
        }
    }

    private static Object valueOf(String text) {
        if (text.equals("true") || text.equals("false")) {
            return Boolean.valueOf(text);
        }
        return text.startsWith("'") ? text.charAt(1) : Integer.decode(text);
    }

    private static String decimal(String text) {
        return text != null && text.matches("-?[0-9].*") ? "" + Integer.decode(text) : "" + text;
    }
}
