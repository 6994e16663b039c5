import java.util.Map;
import java.util.Objects;

/** Counts and prints the answers that are not as due. */
final class Check {
    interface Call {
        Object answer();
    }

    private static final int MOST_PRINTED = 5;

    private static String sentence = "";
    private static int made = 0;
    private static int wrong = 0;

    private Check() {
    }

    /** Runs the checks of one sentence of the document, which is named with each wrong answer. */
    static void sentence(String words, Runnable checks) {
        sentence = "[" + words + "] ";
        int before = made;
        checks.run();
        holds("it is checked", made > before);
        sentence = "";
    }

    static void same(String what, Object got, Object due) {
        made++;
        if (!Objects.equals(got, due)) {
            wrong++;
            System.out.println(sentence + what + " answered " + got + ", due is " + due);
        }
    }

    /** Two looks at all that can be asked; only what differs is printed. */
    static void sameLook(String what, Map<String, Object> got, Map<String, Object> due) {
        same(what + ": what is looked at", got.keySet(), due.keySet());
        int printed = 0;
        for (String name : due.keySet()) {
            if (!Objects.equals(got.get(name), due.get(name)) && printed < MOST_PRINTED) {
                same(what + ": " + name, got.get(name), due.get(name));
                printed++;
            }
        }
    }

    static void holds(String what, boolean it) {
        same(what, it, true);
    }

    static void throwsIt(String what, Class<? extends RuntimeException> due, Call call) {
        same(what, answerOf(call), "throws " + due.getSimpleName());
    }

    /** The answer, or the exception as a text, so that both can be compared. */
    static Object answerOf(Call call) {
        try {
            return call.answer();
        } catch (RuntimeException e) {
            return "throws " + e.getClass().getSimpleName();
        }
    }

    static boolean failed() {
        return wrong != 0;
    }

    static void end() {
        System.out.println(made + " checks, " + wrong + " wrong");
        if (wrong != 0) {
            System.exit(1);
        }
    }
}
