/** Counts and prints what is not as due; a test ends with finish(). */
final class Checks {
    interface Call {
        Object run();
    }

    static final String NO_VERTEX = "throws.IndexOutOfBoundsException";
    static final String ONE_VERTEX = "throws.IllegalArgumentException";
    static final String STATE = "throws.IllegalStateException";

    private static final int PRINTED_AT_MOST = 40;
    private static String prefix = "";
    private static int done = 0;
    private static int wrong = 0;

    private Checks() {
    }

    /** One sentence of the document and the test that is its own, which must look at something. */
    static void sentence(String where, String words, Runnable test) {
        int doneBefore = done;
        int wrongBefore = wrong;
        prefix = where + ": ";
        due("the test itself", "ran", () -> {
            test.run();
            return "ran";
        });
        prefix = "";
        if (done == doneBefore + 1) {
            wrong++;
            System.out.println(where + ": nothing was looked at");
        }
        System.out.println((wrong == wrongBefore ? "  holds: " : "  BROKEN: ") + where + " \"" + words + "\"");
    }

    /** The answer as a text; an exception as the issues write it. */
    static String outcome(Call call) {
        try {
            return String.valueOf(call.run());
        } catch (RuntimeException e) {
            return "throws." + e.getClass().getSimpleName();
        }
    }

    /** Whether the answer was as due. */
    static boolean due(String what, Object want, Call call) {
        return same(what, outcome(call), String.valueOf(want));
    }

    static boolean same(CharSequence what, String got, String want) {
        done++;
        if (got.equals(want)) {
            return true;
        }
        wrong++;
        if (wrong <= PRINTED_AT_MOST) {
            System.out.println(prefix + what + " answered " + got + ", due is " + want);
        }
        return false;
    }

    static void finish() {
        System.out.println(done + " answers looked at, " + wrong + " not as due");
        if (wrong != 0 || done == 0) {
            System.exit(1);
        }
    }
}
