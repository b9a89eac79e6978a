/** What the tests share: counts the answers that are not as due, and ends the run by them. */
final class Checks {
    interface Call {
        long answer();
    }

    static final Class<?> ARGUMENT = IllegalArgumentException.class;
    static final Class<?> STATE = IllegalStateException.class;
    static final Class<?> INDEX = IndexOutOfBoundsException.class;

    private static int made = 0;
    private static int wrong = 0;

    private Checks() {
    }

    static void due(String what, long want, long got) {
        made++;
        if (want != got) {
            tell(what + " answered " + got + ", due is " + want);
        }
    }

    static void dueThrow(String what, Class<?> want, Call call) {
        made++;
        String got = answerOf(call);
        if (!got.equals("throws " + want.getName())) {
            tell(what + " answered " + got + ", due is throws " + want.getName());
        }
    }

    static void dueText(String what, String want, String got) {
        made++;
        if (!want.equals(got)) {
            tell(what + " answered " + got + ", due is " + want);
        }
    }

    /** The answer as a text, with the very class of what was thrown. */
    static String answerOf(Call call) {
        try {
            return Long.toString(call.answer());
        } catch (RuntimeException e) {
            return "throws " + e.getClass().getName();
        }
    }

    private static void tell(String text) {
        wrong++;
        if (wrong <= 40) {
            System.out.println("  " + text);
        }
    }

    static void end() {
        System.out.println("  " + made + " checks, " + wrong + " wrong");
        if (wrong != 0 || made == 0) {
            System.exit(1);
        }
    }
}
