import java.util.Objects;

/** Counts and prints the answers that are not as due. */
final class Check {
    interface Call {
        Object answer();
    }

    private static int made = 0;
    private static int wrong = 0;

    private Check() {
    }

    static void same(String what, Object got, Object due) {
        made++;
        if (!Objects.equals(got, due)) {
            wrong++;
            System.out.println(what + " answered " + got + ", due is " + due);
        }
    }

    static void holds(String what, boolean it) {
        same(what, it, true);
    }

    static void throwsIt(String what, Class<? extends RuntimeException> due, Call call) {
        same(what, answerOf(call), "throws " + due.getSimpleName());
    }

    /** The answer, or the exception as a text, so that both can be compared. */
    static Object answerOf(Call call) {
        try {
            return call.answer();
        } catch (RuntimeException e) {
            return "throws " + e.getClass().getSimpleName();
        }
    }

    static boolean failed() {
        return wrong != 0;
    }

    static void end() {
        System.out.println(made + " checks, " + wrong + " wrong");
        if (wrong != 0) {
            System.exit(1);
        }
    }
}
