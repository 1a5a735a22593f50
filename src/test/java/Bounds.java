import java.util.function.Supplier;

/** Arguments at the ends of their ranges, and right beside them. */
final class Bounds {
    static final String INDEX = "throws.IndexOutOfBoundsException";
    static final String ARGUMENT = "throws.IllegalArgumentException";
    static final String STATE = "throws.IllegalStateException";

    interface Call {
        Object on(CaptionHouse house, int argument);
    }

    private Bounds() {
    }

    /** The least and the greatest one are taken, on a new house each; one less, one more and the ends of int are refused. */
    static void range(String what, String refusal, Supplier<CaptionHouse> houses, int least, int greatest, Call call) {
        taken(what, houses, least, call);
        taken(what, houses, greatest, call);
        refused(what, refusal, houses.get(), call, Integer.MIN_VALUE, least - 1, greatest + 1, Integer.MAX_VALUE);
    }

    private static void taken(String what, Supplier<CaptionHouse> houses, int argument, Call call) {
        CaptionHouse house = houses.get();
        String outcome = Checks.outcome(() -> call.on(house, argument));
        Checks.due(what + " of " + argument + " is taken", outcome.startsWith("throws.") ? outcome : "", "");
    }

    /** Each of these is refused with this exception, and changes nothing. */
    static void refused(String what, String refusal, CaptionHouse house, Call call, int... wrong) {
        String before = State.of(house);
        for (int argument : wrong) {
            Checks.due(what + " of " + argument, Checks.outcome(() -> call.on(house, argument)), refusal);
            Checks.due("the state behind " + what + " of " + argument, State.of(house), before);
        }
    }
}
