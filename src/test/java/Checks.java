import java.util.function.IntSupplier;

/** Counts what is not as it is due; a test's main ends with {@link #close}. */
final class Checks {
    private static int done = 0;
    private static int wrong = 0;
    private static String about = "";

    private Checks() {
    }

    /** What the checks that follow are about: it stands ahead of each fault that they find. */
    static void begin(String topic) {
        about = topic.isEmpty() ? "" : "[" + topic + "] ";
    }

    static int done() {
        return done;
    }

    static void due(String what, long want, long got) {
        due(what, String.valueOf(want), String.valueOf(got));
    }

    static void due(String what, String want, String got) {
        done++;
        if (!want.equals(got)) {
            wrong++;
            System.out.println(about + what + ": answered " + got + ", due is " + want);
        }
    }

    static void holds(String what, boolean truth) {
        due(what, "true", String.valueOf(truth));
    }

    /** An answer as a text; a thrown exception as its very class, so that a subclass of the machine's is told apart. */
    static String answerOf(IntSupplier call) {
        try {
            return String.valueOf(call.getAsInt());
        } catch (RuntimeException e) {
            return e.getClass().getName();
        }
    }

    static void noIndex(String what, IntSupplier call) {
        due(what, "java.lang.IndexOutOfBoundsException", answerOf(call));
    }

    static void badArgument(String what, IntSupplier call) {
        due(what, "java.lang.IllegalArgumentException", answerOf(call));
    }

    static void badState(String what, IntSupplier call) {
        due(what, "java.lang.IllegalStateException", answerOf(call));
    }

    static void close(String test) {
        System.out.println(test + ": " + done + " checks, " + wrong + " wrong");
        if (wrong != 0) {
            System.exit(1);
        }
    }
}
