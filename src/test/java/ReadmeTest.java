import java.lang.reflect.Method;
import java.lang.reflect.Modifier;
import java.nio.file.Files;
import java.nio.file.Path;
import java.util.regex.Matcher;
import java.util.regex.Pattern;

/** What README.md shows holds: the example's answers, the constants, and a row for each call of the face. */
final class ReadmeTest {
    /** A call on log and, behind it, "// answer: words" or words alone. */
    private static final Pattern CALL = Pattern.compile("log\\.(\\w+)\\(([^)]*)\\);\\s*// (?:(-?\\d+):)?.*");

    private ReadmeTest() {
    }

    public static void main(String[] args) throws Exception {
        String text = Files.readString(Path.of("README.md"));
        example(text);
        table(text);
        String constants = "`NONE` is " + ForwardLog.NONE + ", `FULL` " + ForwardLog.FULL + ", `BAD` " + ForwardLog.BAD;
        Checks.due("the constants are told", 1, text.contains(constants) ? 1 : 0);
        Checks.end();
    }

    private static void example(String text) throws ReflectiveOperationException {
        int from = text.indexOf("```java\n") + 8;
        String[] lines = text.substring(from, text.indexOf("```", from)).split("\n");
        Checks.dueText("its first line", "ForwardLog log = new ForwardLog();", lines[0]);
        ForwardLog log = new ForwardLog();
        int answers = 0;
        for (int k = 1; k < lines.length; k++) {
            Matcher call = CALL.matcher(lines[k]);
            if (!call.matches()) {
                Checks.dueText("a line of the example", "a call and what it answers", lines[k]);
                continue;
            }
            Object answer = answerOf(log, call.group(1), call.group(2).split(",\\s*"));
            if (call.group(3) != null) {
                answers++;
                Checks.dueText(lines[k], call.group(3), String.valueOf(answer));
            }
        }
        Checks.due("the example tells answers", 1, answers > 9 ? 1 : 0);
    }

    private static Object answerOf(ForwardLog log, String name, String[] words) throws ReflectiveOperationException {
        int many = words[0].isEmpty() ? 0 : words.length;
        Class<?>[] types = new Class<?>[many];
        Object[] numbers = new Object[many];
        for (int k = 0; k < many; k++) {
            types[k] = int.class;
            numbers[k] = Integer.decode(words[k]);
        }
        return ForwardLog.class.getMethod(name, types).invoke(log, numbers);
    }

    private static void table(String text) {
        for (Method method : ForwardLog.class.getDeclaredMethods()) {
            if (Modifier.isPublic(method.getModifiers())) {
                Checks.due("a row for " + method.getName(), 1, text.contains("\n| `" + method.getName() + "(") ? 1 : 0);
            }
        }
    }
}
