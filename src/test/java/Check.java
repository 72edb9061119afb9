import java.util.function.Supplier;

/** Compares answers with those due, and ends a test's main. */
final class Check {
    private static int checks = 0;
    private static int wrong = 0;

    private Check() {
    }

    static void same(String what, Object due, Object got) {
        checks++;
        if (!due.equals(got)) {
            wrong++;
            System.out.println(what + ": due is " + due + ", answered was " + got);
        }
    }

    /** The bits of the float are due. */
    static void bits(String what, float due, int got) {
        same(what, due + " " + Float.floatToIntBits(due), Float.intBitsToFloat(got) + " " + got);
    }

    static void raises(String what, Class<? extends RuntimeException> due, Supplier<Object> call) {
        same(what, "throws." + due.getSimpleName(), answer(call));
    }

    static void argument(String what, Supplier<Object> call) {
        raises(what, IllegalArgumentException.class, call);
    }

    static void index(String what, Supplier<Object> call) {
        raises(what, IndexOutOfBoundsException.class, call);
    }

    static void state(String what, Supplier<Object> call) {
        raises(what, IllegalStateException.class, call);
    }

    /** What a call answers, as a text; what it throws, by its exact class. */
    static String answer(Supplier<Object> call) {
        try {
            return String.valueOf(call.get());
        } catch (RuntimeException e) {
            return "throws." + e.getClass().getSimpleName();
        }
    }

    static void end() {
        System.out.println(checks + " answers, " + wrong + " of them wrong");
        if (wrong != 0 || checks == 0) {
            System.exit(1);
        }
    }
}
