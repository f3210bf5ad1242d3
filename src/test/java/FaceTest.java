import java.lang.reflect.Constructor;
import java.lang.reflect.Field;
import java.lang.reflect.Method;
import java.lang.reflect.Modifier;
import java.util.Arrays;
import java.util.TreeSet;

/** The public face is the document's and nothing else. */
public final class FaceTest {
    private static final String BAD = " IllegalArgumentException";
    private static final String BAD_OR_FULL = " IllegalArgumentException IndexOutOfBoundsException";

    public static void main(String[] args) {
        Check check = new Check();
        Class<?> face = WeightOrder.class;
        check.due("public final", "the class", Modifier.toString(face.getModifiers()));
        TreeSet<String> want = new TreeSet<>(Arrays.asList(
                "void order int int" + BAD,
                "int line int int int int" + BAD_OR_FULL,
                "int element int int int boolean" + BAD_OR_FULL,
                "int add int int" + BAD_OR_FULL,
                "int clear int" + BAD,
                "int count int boolean" + BAD,
                "int weight int boolean int int" + BAD,
                "int compare int int int boolean" + BAD));
        TreeSet<String> got = new TreeSet<>();
        for (Method method : face.getDeclaredMethods()) {
            if (!Modifier.isPrivate(method.getModifiers())) {
                got.add(textOf(method));
            }
        }
        check.due(want.toString(), "the methods", got.toString());
        for (Field field : face.getDeclaredFields()) {
            check.due("true", field.getName() + " is private and final",
                    "" + (Modifier.isPrivate(field.getModifiers()) && Modifier.isFinal(field.getModifiers())));
        }
        Constructor<?>[] constructors = face.getDeclaredConstructors();
        check.due("1", "constructors", "" + constructors.length);
        check.due("public WeightOrder()", "the constructor", constructors[0].toString());
        for (Class<?> inside : face.getDeclaredClasses()) {
            check.due("true", inside.getName() + " is static", "" + Modifier.isStatic(inside.getModifiers()));
        }
        check.end();
    }

    private static String textOf(Method method) {
        StringBuilder text = new StringBuilder(method.getReturnType().getSimpleName());
        text.append(' ').append(method.getName());
        for (Class<?> type : method.getParameterTypes()) {
            text.append(' ').append(type.getSimpleName());
        }
        for (Class<?> type : method.getExceptionTypes()) {
            text.append(' ').append(type.getSimpleName());
        }
        return text.toString();
    }
}
