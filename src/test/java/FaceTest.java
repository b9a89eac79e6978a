import java.lang.reflect.Constructor;
import java.lang.reflect.Method;
import java.lang.reflect.Modifier;
import java.util.Arrays;
import java.util.TreeSet;

/** The class has the document's public face, and just this. */
final class FaceTest {
    private static final String[] METHODS = {
        "int append() throws IllegalStateException",
        "int bend(int, int) throws IllegalArgumentException IndexOutOfBoundsException",
        "int count(int) throws IllegalArgumentException",
        "int crash(int) throws IllegalArgumentException",
        "int erase()",
        "int feed(int, int, int, int, int) throws IllegalArgumentException IllegalStateException",
        "int key(int) throws IllegalArgumentException",
        "int octet(int)",
        "int record(int, int) throws IllegalArgumentException",
        "int recover() throws IllegalStateException",
        "int seal() throws IllegalStateException",
        "int sync() throws IllegalStateException",
        "int told(int) throws IllegalArgumentException",
        "int verify(int, int, int, int)",
        "void begin(int, int, int, int)",
    };

    private FaceTest() {
    }

    public static void main(String[] args) {
        Class<?> face = ForwardLog.class;
        Checks.dueText("the class", "public final", Modifier.toString(face.getModifiers()));
        Checks.due("NONE", -1, ForwardLog.NONE);
        Checks.due("FULL", -2, ForwardLog.FULL);
        Checks.due("BAD", -3, ForwardLog.BAD);
        TreeSet<String> fields = new TreeSet<>();
        for (var field : face.getDeclaredFields()) {
            if (!Modifier.isPrivate(field.getModifiers())) {
                fields.add(Modifier.toString(field.getModifiers()) + " " + field.getType() + " " + field.getName());
            }
        }
        Checks.dueText("the constants",
            "[public static final int BAD, public static final int FULL, public static final int NONE]",
            fields.toString());
        TreeSet<String> methods = new TreeSet<>();
        for (Method method : face.getDeclaredMethods()) {
            if (Modifier.isPublic(method.getModifiers()) && !Modifier.isStatic(method.getModifiers())) {
                methods.add(textOf(method));
            } else if (!method.isSynthetic()) {
                Checks.due("private " + method, 1, Modifier.isPrivate(method.getModifiers()) ? 1 : 0);
            }
        }
        Checks.dueText("the methods", new TreeSet<>(Arrays.asList(METHODS)).toString(), methods.toString());
        Constructor<?>[] makers = face.getDeclaredConstructors();
        Checks.due("constructors", 1, makers.length);
        Checks.dueText("the constructor", "public ForwardLog()", makers[0].toString());
        Checks.end();
    }

    private static String textOf(Method method) {
        StringBuilder text = new StringBuilder();
        text.append(method.getReturnType()).append(' ').append(method.getName()).append('(');
        String between = "";
        for (Class<?> parameter : method.getParameterTypes()) {
            text.append(between).append(parameter);
            between = ", ";
        }
        text.append(')');
        TreeSet<String> thrown = new TreeSet<>();
        for (Class<?> exception : method.getExceptionTypes()) {
            thrown.add(exception.getSimpleName());
        }
        if (!thrown.isEmpty()) {
            text.append(" throws ").append(String.join(" ", thrown));
        }
        return text.toString();
    }
}
