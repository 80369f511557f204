/** Counts and prints what is not as due; a test ends with finish(). */
final class Checks {
    interface Call {
        Object run();
    }

    private static final int PRINTED_AT_MOST = 40;
    private static int done = 0;
    private static int wrong = 0;

    private Checks() {
    }

    /** The answer as a text; an exception as the issues write it. */
    static String outcome(Call call) {
        try {
            return String.valueOf(call.run());
        } catch (RuntimeException e) {
            return "throws." + e.getClass().getSimpleName();
        }
    }

    static void due(String what, Object want, Call call) {
        same(what, outcome(call), String.valueOf(want));
    }

    static void same(CharSequence what, String got, String want) {
        done++;
        if (got.equals(want)) {
            return;
        }
        wrong++;
        if (wrong <= PRINTED_AT_MOST) {
            System.out.println(what + " answered " + got + ", due is " + want);
        }
    }

    static void finish() {
        System.out.println(done + " answers looked at, " + wrong + " not as due");
        if (wrong != 0 || done == 0) {
            System.exit(1);
        }
    }
}
