import java.io.IOException;
import java.lang.reflect.Executable;
import java.lang.reflect.Field;
import java.lang.reflect.Method;
import java.lang.reflect.Modifier;
import java.nio.file.Files;
import java.nio.file.Path;
import java.util.ArrayList;
import java.util.Arrays;
import java.util.List;
import java.util.Set;
import java.util.TreeSet;
import java.util.regex.Matcher;
import java.util.regex.Pattern;

/** Rules of LANGUAGE.md that can be seen in the text of the program or by reflection. */
public final class LanguageTest {
    private static final Set<String> LIBRARY = Set.of("Integer.compare", "Math.max", "System.arraycopy");
    private static final Set<Class<?>> CONSTANTS = Set.of(int.class, long.class, boolean.class, char.class,
            String.class, int[].class, long[].class, char[].class, byte[].class);

    private final Check check = new Check();
    private final List<Class<?>> classes = new ArrayList<>(List.of(WeightOrder.class));

    public static void main(String[] args) throws IOException {
        LanguageTest test = new LanguageTest();
        String text = Files.readString(Path.of("src/main/java/WeightOrder.java"));
        test.classes.addAll(Arrays.asList(WeightOrder.class.getDeclaredClasses()));
        test.words(withoutComments(text));
        test.names();
        test.sizes();
        test.staticFields();
        test.check.end();
    }

    private static String withoutComments(String text) {
        return text.replaceAll("(?s)/\\*.*?\\*/", "").replaceAll("//[^\n]*", "");
    }

    private void words(String text) {
        for (String word : new String[] {"package", "import", "finally", "synchronized", "assert", "try", "catch",
            "equals", "hashCode", "toString", "native", "volatile", "transient", "float", "double"}) {
            check.due("false", "the word " + word, "" + Pattern.compile("\\b" + word + "\\b").matcher(text).find());
        }
        check.due("false", "a lambda or a method reference", "" + (text.contains("->") || text.contains("::")));
        Matcher library = Pattern.compile("\\b[A-Z][a-z]+\\w*\\.[a-z]\\w*").matcher(text);
        while (library.find()) {
            check.due("true", library.group() + " is listed", "" + LIBRARY.contains(library.group()));
        }
        Matcher thrown = Pattern.compile("throw ([^;]*);").matcher(text);
        while (thrown.find()) {
            check.due("true", thrown.group(), "" + thrown.group(1)
                    .matches("new (IllegalArgumentException|IndexOutOfBoundsException)\\(\\)"));
        }
    }

    // Rule 1: no private method bears the name of a public one.
    private void names() {
        TreeSet<String> face = new TreeSet<>();
        for (Method method : WeightOrder.class.getMethods()) {
            face.add(method.getName());
        }
        for (Class<?> c : classes) {
            for (Method method : c.getDeclaredMethods()) {
                boolean hidden = !Modifier.isPublic(method.getModifiers());
                check.due("false", method + " has a name of the face", "" + (hidden && face.contains(method.getName())));
            }
        }
        for (Class<?> c : WeightOrder.class.getDeclaredClasses()) {
            int open = Modifier.PUBLIC | Modifier.PROTECTED;
            check.due("true", c + " is hidden and static",
                    "" + ((c.getModifiers() & open) == 0 && Modifier.isStatic(c.getModifiers())));
        }
    }

    // Rule 11.
    private void sizes() {
        check.due("true", classes.size() + " classes are at most twelve", "" + (classes.size() <= 12));
        for (Class<?> c : classes) {
            int fields = 0;
            for (Field field : c.getDeclaredFields()) {
                fields += Modifier.isStatic(field.getModifiers()) ? 0 : 1;
            }
            check.due("true", fields + " fields of " + c + " are at most twenty", "" + (fields <= 20));
            List<Executable> all = new ArrayList<>(Arrays.asList(c.getDeclaredMethods()));
            all.addAll(Arrays.asList(c.getDeclaredConstructors()));
            for (Executable one : all) {
                check.due("true", one + " has at most seven parameters", "" + (one.getParameterCount() <= 7));
            }
        }
    }

    // Rule 5.
    private void staticFields() {
        for (Class<?> c : classes) {
            for (Field field : c.getDeclaredFields()) {
                if (Modifier.isStatic(field.getModifiers())) {
                    check.due("true", field + " is a constant",
                            "" + (Modifier.isFinal(field.getModifiers()) && CONSTANTS.contains(field.getType())));
                }
            }
        }
    }
}
