/** Counts what the tests look at, and tells what is not as it is due. */
final class Check {
    interface Call {
        long answer();
    }

    private static int looked = 0;
    private static int wrong = 0;

    private Check() {
    }

    static void due(String what, long got, long want) {
        looked++;
        if (got != want) {
            wrong++;
            System.out.println(what + " answered " + got + ", due is " + want);
        }
    }

    static void holds(String what, boolean got) {
        due(what, got ? 1 : 0, 1);
    }

    /** What a call answers, or the exception that it throws, as a text. */
    static String outcome(Call call) {
        try {
            return Long.toString(call.answer());
        } catch (RuntimeException e) {
            return e.getClass().getSimpleName();
        }
    }

    static void same(String what, String got, String want) {
        looked++;
        if (!got.equals(want)) {
            wrong++;
            System.out.println(what + " answered " + got + ", due is " + want);
        }
    }

    static void noIndex(String what, Call call) {
        same(what, outcome(call), "IndexOutOfBoundsException");
    }

    static void noArgument(String what, Call call) {
        same(what, outcome(call), "IllegalArgumentException");
    }

    static void noState(String what, Call call) {
        same(what, outcome(call), "IllegalStateException");
    }

    static int wrongSoFar() {
        return wrong;
    }

    static void end(String name) {
        System.out.println(name + ": " + looked + " looked at, " + wrong + " wrong");
        if (wrong > 0) {
            System.exit(1);
        }
    }
}
