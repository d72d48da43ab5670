/** Counts and prints answers that are not as due; each test ends with end(). */
final class Check {
    private static int wrong = 0;

    private Check() {
    }

    interface Call {
        long answer();
    }

    static void due(String what, long got, long want) {
        if (got != want) {
            say(what + " answered " + got + ", due is " + want);
        }
    }

    static void due(String what, String got, String want) {
        if (!got.equals(want)) {
            say(what + " answered " + got + ", due is " + want);
        }
    }

    static void argument(String what, Call call) {
        due(what, outcome(call), "throws.IllegalArgumentException");
    }

    static void state(String what, Call call) {
        due(what, outcome(call), "throws.IllegalStateException");
    }

    /** The answer as text; of an exception its very class, so that one of a class below it is seen. */
    static String outcome(Call call) {
        try {
            return Long.toString(call.answer());
        } catch (RuntimeException e) {
            return "throws." + e.getClass().getSimpleName();
        }
    }

    static void say(String text) {
        wrong++;
        System.out.println(text);
    }

    static void end() {
        if (wrong > 0) {
            System.out.println(wrong + " answers are not as due");
            System.exit(1);
        }
    }
}
