import java.util.function.Supplier;
import java.util.function.ToIntFunction;

/**
 * Calls that are refused: each throws the very exception that is due, and the network on which it was tried goes on
 * like one on which it was not.
 */
final class Refusals {
    private static final String INDEX = "java.lang.IndexOutOfBoundsException";
    private static final String ARGUMENT = "java.lang.IllegalArgumentException";
    private static final String STATE = "java.lang.IllegalStateException";

    /** A call of one number. */
    interface CallWith {
        int on(SensorBond x, int number);
    }

    private Refusals() {
    }

    static void index(String what, Supplier<SensorBond> scene, ToIntFunction<SensorBond> call) {
        refused(what, INDEX, scene, call);
    }

    static void argument(String what, Supplier<SensorBond> scene, ToIntFunction<SensorBond> call) {
        refused(what, ARGUMENT, scene, call);
    }

    static void state(String what, Supplier<SensorBond> scene, ToIntFunction<SensorBond> call) {
        refused(what, STATE, scene, call);
    }

    /** Each number from the lowest to the highest is taken; those beside them, and far from them, are no index. */
    static void indexRange(int lowest, int highest, Supplier<SensorBond> scene, CallWith call) {
        taken(lowest, highest, scene, call);
        noIndexBut(lowest, highest, scene, call);
    }

    /** Each number from the lowest to the highest is taken; those beside them, and far from them, are bad arguments. */
    static void argumentRange(int lowest, int highest, Supplier<SensorBond> scene, CallWith call) {
        taken(lowest, highest, scene, call);
        noArgumentBut(lowest, highest, scene, call);
    }

    static void taken(int lowest, int highest, Supplier<SensorBond> scene, CallWith call) {
        for (int number = lowest; number <= highest; number++) {
            SensorBond x = scene.get();
            int given = number;
            String answer = Checks.answerOf(() -> call.on(x, given));
            Checks.holds(number + " is taken, not " + answer, !answer.startsWith("java"));
        }
    }

    static void noIndexBut(int lowest, int highest, Supplier<SensorBond> scene, CallWith call) {
        for (int number : outside(lowest, highest)) {
            index("no " + number, scene, x -> call.on(x, number));
        }
    }

    static void noArgumentBut(int lowest, int highest, Supplier<SensorBond> scene, CallWith call) {
        for (int number : outside(lowest, highest)) {
            argument("no " + number, scene, x -> call.on(x, number));
        }
    }

    private static int[] outside(int lowest, int highest) {
        return new int[] {lowest - 1, highest + 1, Integer.MIN_VALUE, Integer.MAX_VALUE};
    }

    private static void refused(String what, String exception, Supplier<SensorBond> scene,
            ToIntFunction<SensorBond> call) {
        Checks.due(what, exception, tryOn(scene.get(), call));
        String tried = Story.of(() -> {
            SensorBond x = scene.get();
            tryOn(x, call);
            return x;
        });
        Checks.due(what + " changes nothing", Story.of(scene), tried);
    }

    private static String tryOn(SensorBond x, ToIntFunction<SensorBond> call) {
        return Checks.answerOf(() -> call.applyAsInt(x));
    }
}
