/** Counts and prints the answers that are not the ones that are due. */
final class Check {
    private static final int MOST_PRINTED = 40;
    private static int checks = 0;
    private static int wrong = 0;
    /** What is told ahead of each wrong answer. */
    private static String place = "";

    interface Call {
        long answer();
    }

    private Check() {
    }

    static void at(String newPlace) {
        place = newPlace;
    }

    static int checks() {
        return checks;
    }

    static void same(String what, long got, long due) {
        checks++;
        if (got != due) {
            fail(what + " answered " + got + ", due is " + due);
        }
    }

    static void same(String what, String got, String due) {
        checks++;
        if (!got.equals(due)) {
            fail(what + " answered " + got + ", due is " + due);
        }
    }

    /** The answer as a text; an exception as "throws." and its simple name. */
    static String told(Call call) {
        try {
            return Long.toString(call.answer());
        } catch (RuntimeException e) {
            return "throws." + e.getClass().getSimpleName();
        }
    }

    static void noCan(String what, Call call) {
        same(what, told(call), "throws.IndexOutOfBoundsException");
    }

    static void badArgument(String what, Call call) {
        same(what, told(call), "throws.IllegalArgumentException");
    }

    static void badState(String what, Call call) {
        same(what, told(call), "throws.IllegalStateException");
    }

    static void fail(String what) {
        wrong++;
        if (wrong <= MOST_PRINTED) {
            System.out.println(place + what);
        }
    }

    static void end(String name) {
        System.out.println(name + ": " + checks + " checks, " + wrong + " wrong");
        if (wrong > 0 || checks == 0) {
            System.exit(1);
        }
    }
}
