import java.lang.reflect.Executable;
import java.lang.reflect.Field;
import java.lang.reflect.Method;
import java.lang.reflect.Modifier;
import java.nio.charset.StandardCharsets;
import java.nio.file.Files;
import java.nio.file.Path;
import java.util.Set;
import java.util.TreeSet;
import java.util.regex.Matcher;
import java.util.regex.Pattern;

/** Rules of LANGUAGE.md that can be read from the source's lines and from the compiled class. */
final class LanguageTest {
    /** Words that the rules rule out, or that the class does without; a catch is taken only with rule 6 in mind. */
    private static final String[] NOT_THERE = {
        "package", "import", "finally", "assert", "synchronized", "native", "volatile", "catch", "goto", "var",
        "java", "Object", "Throwable", "hashCode", "toString", "equals", "float", "double"
    };
    private static final String[] LIBRARY = {"min", "max"};
    private static final String EXCEPTIONS = "IllegalStateException|IllegalArgumentException|IndexOutOfBoundsException";
    private static final Set<Class<?>> CONSTANTS =
        Set.of(int.class, long.class, boolean.class, char.class, String.class, int[].class, long[].class, char[].class,
            byte[].class);
    private static final int LINES = 60;
    private static final int PARAMETERS = 7;
    private static final int CLASSES = 12;
    private static final int FIELDS = 20;

    private LanguageTest() {
    }

    public static void main(String[] args) throws Exception {
        byte[] bytes = Files.readAllBytes(Path.of("src/main/java/ForwardLog.java"));
        int beyond = 0;
        for (byte sign : bytes) {
            beyond += sign > 0 ? 0 : 1;
        }
        Checks.due("signs of the source beyond 1 to 127", 0, beyond);
        String source = new String(bytes, StandardCharsets.US_ASCII);
        String code = source.replaceAll("(?s)/\\*.*?\\*/", "").replaceAll("//[^\n]*", "");
        throwsWrittenTexts(code);
        words(code.replaceAll("\"[^\"]*\"", "\"\""));
        methodsAreShort(source.split("\n"));
        Set<String> finals = new TreeSet<>();
        Class<?>[] inside = ForwardLog.class.getDeclaredClasses();
        Checks.due("some twelve classes", 1, inside.length < CLASSES ? 1 : 0);
        members(ForwardLog.class, finals);
        for (Class<?> type : inside) {
            int kind = type.getModifiers();
            Checks.due(type + " is static", 1, Modifier.isStatic(kind) ? 1 : 0);
            Checks.due(type + " is not seen", 0, Modifier.isPublic(kind) || Modifier.isProtected(kind) ? 1 : 0);
            members(type, finals);
        }
        callsMakeNothing(code, finals);
        Checks.end();
    }

    /** Rule 6: throw new E("a written text"), and nothing else. */
    private static void throwsWrittenTexts(String code) {
        Matcher thrown = Pattern.compile("\\bthrow\\b([^;]*);").matcher(code);
        while (thrown.find()) {
            boolean written = thrown.group(1).matches(" new (" + EXCEPTIONS + ")\\(\"[^\"]*\"\\)");
            Checks.due("throw" + thrown.group(1), 1, written ? 1 : 0);
        }
    }

    /** Rules 1, 2, 4 and 6: what stands nowhere in the code. */
    private static void words(String code) {
        for (String word : NOT_THERE) {
            Checks.due(word, 0, Pattern.compile("\\b" + word + "\\b").matcher(code).find() ? 1 : 0);
        }
        Checks.due("a lambda", 0, code.contains("->") ? 1 : 0);
        Checks.due("a method reference", 0, code.contains("::") ? 1 : 0);
        Matcher library = Pattern.compile("\\b(Math|Integer|Long|Arrays|System)\\.(\\w+)").matcher(code);
        while (library.find()) {
            boolean listed = library.group(1).equals("Math") && Set.of(LIBRARY).contains(library.group(2));
            Checks.due(library.group(), 1, listed ? 1 : 0);
        }
    }

    /** Rule 11: a method begins with "{" and ends with "}" at the same indentation, four signs or eight. */
    private static void methodsAreShort(String[] lines) {
        for (int begin = 0; begin < lines.length; begin++) {
            if (!lines[begin].matches("( {4}| {8})\\S.*\\(.*\\{")) {
                continue;
            }
            String end = " ".repeat(lines[begin].indexOf(lines[begin].trim())) + "}";
            int last = begin;
            while (last < lines.length && !lines[last].equals(end)) {
                last++;
            }
            Checks.due("lines of" + lines[begin], 1, last - begin < LINES ? 1 : 0);
        }
    }

    /** Rules 1, 5 and 11: private names, static fields, parameters, fields. */
    private static void members(Class<?> type, Set<String> finals) {
        int fields = 0;
        for (Field field : type.getDeclaredFields()) {
            int kind = field.getModifiers();
            if (Modifier.isFinal(kind)) {
                finals.add(field.getName());
            }
            if (Modifier.isStatic(kind)) {
                boolean constant = Modifier.isFinal(kind) && CONSTANTS.contains(field.getType());
                Checks.due(field + " is a constant", 1, constant ? 1 : 0);
            } else {
                fields++;
            }
        }
        Checks.due("some twenty fields of " + type, 1, fields <= FIELDS ? 1 : 0);
        Set<String> face = new TreeSet<>();
        for (Method method : ForwardLog.class.getMethods()) {
            face.add(method.getName());
        }
        for (Method method : type.getDeclaredMethods()) {
            fewParameters(method);
            boolean hidden = !Modifier.isPublic(method.getModifiers());
            Checks.due("a public name for " + method, 0, hidden && face.contains(method.getName()) ? 1 : 0);
        }
        for (Executable maker : type.getDeclaredConstructors()) {
            fewParameters(maker);
        }
    }

    private static void fewParameters(Executable called) {
        Checks.due("parameters of " + called, 1, called.getParameterCount() <= PARAMETERS ? 1 : 0);
    }

    /** All calls live in one room: what is made goes into final fields, so in constructors alone. */
    private static void callsMakeNothing(String code, Set<String> finals) {
        Matcher made = Pattern.compile("([^\n]*)\\bnew \\w+").matcher(code);
        while (made.find()) {
            String before = made.group(1).trim();
            boolean kept = before.endsWith(" =") && finals.contains(before.substring(0, before.length() - 2));
            Checks.due("new behind " + before, 1, kept || before.equals("throw") ? 1 : 0);
        }
    }
}
