import java.util.HashMap;
import java.util.Map;
import java.util.function.ToLongFunction;

/**
 * Makes a call that is due to be refused, and looks whether all later answers are as if it had not
 * been made.
 */
final class Refused {
    private static final Map<Look.State, String[]> AS_DUE = new HashMap<>();

    private Refused() {
    }

    /** A call whose answer is below 0. */
    static void in(Look.State state, long due, ToLongFunction<ShadowBench> call) {
        look(state, Long.toString(due), call);
    }

    /** A call that throws. */
    static void thrown(Look.State state, Class<? extends RuntimeException> due,
            ToLongFunction<ShadowBench> call) {
        look(state, "throws." + due.getSimpleName(), call);
    }

    /** A call that is refused in every state. */
    static void everywhere(long due, ToLongFunction<ShadowBench> call) {
        in(Look.FRESH, due, call);
        in(Look.SOME, due, call);
        in(Look.FULL, due, call);
    }

    static void thrownEverywhere(Class<? extends RuntimeException> due,
            ToLongFunction<ShadowBench> call) {
        thrown(Look.FRESH, due, call);
        thrown(Look.SOME, due, call);
        thrown(Look.FULL, due, call);
    }

    private static void look(Look.State state, String due, ToLongFunction<ShadowBench> call) {
        String[] wants = AS_DUE.computeIfAbsent(state, Refused::asItIs);
        for (int part = 0; part < Look.PARTS; part++) {
            ShadowBench b = new ShadowBench();
            state.build(b);
            Check.due("the call", Look.answer(b, call), due);
            Check.due("the same call again", Look.answer(b, call), due);
            Check.due("after the refused call part " + part, Look.part(part, b), wants[part]);
        }
    }

    private static String[] asItIs(Look.State state) {
        String[] parts = new String[Look.PARTS];
        for (int part = 0; part < Look.PARTS; part++) {
            ShadowBench b = new ShadowBench();
            state.build(b);
            parts[part] = Look.part(part, b);
        }
        return parts;
    }
}
