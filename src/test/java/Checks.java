import java.util.concurrent.Callable;

/** What the tests have in common: they count wrong answers, and end with exit code 1 if there was one. */
final class Checks {
    private static int asked = 0;
    private static int wrong = 0;
    private static String about = "";

    private Checks() {
    }

    /** What is told ahead of each wrong answer from now on. */
    static void about(String text) {
        about = text;
    }

    static int asked() {
        return asked;
    }

    static void due(String what, Object got, Object want) {
        asked++;
        if (!String.valueOf(got).equals(String.valueOf(want))) {
            wrong++;
            System.out.println(about + what + ": answered " + got + ", due is " + want);
        }
    }

    static void holds(String what, boolean got) {
        due(what, got, true);
    }

    /** The answer of a call as a text, or the name of what it throws. */
    static String outcome(Callable<Object> call) {
        try {
            return String.valueOf(call.call());
        } catch (Exception e) {
            return "throws." + e.getClass().getSimpleName();
        }
    }

    /** A refused call throws just this exception, and changes nothing that can be asked for. */
    private static void refuses(String name, CaptionHouse house, String what, Callable<Object> call) {
        String before = State.of(house);
        due(what, outcome(call), "throws." + name);
        due("the state behind " + what, State.of(house), before);
    }

    static void noIndex(CaptionHouse house, String what, Callable<Object> call) {
        refuses("IndexOutOfBoundsException", house, what, call);
    }

    static void noArgument(CaptionHouse house, String what, Callable<Object> call) {
        refuses("IllegalArgumentException", house, what, call);
    }

    static void noState(CaptionHouse house, String what, Callable<Object> call) {
        refuses("IllegalStateException", house, what, call);
    }

    static void end(String test) {
        System.out.println(test + ": " + asked + " answers, " + wrong + " wrong");
        if (wrong > 0 || asked == 0) {
            System.exit(1);
        }
    }
}
