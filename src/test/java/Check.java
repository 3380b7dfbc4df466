/** Counts the answers that are due and those that are not. */
final class Check {
    interface Call {
        Object answer();
    }

    private static int passed = 0;
    private static int failed = 0;

    private Check() {
    }

    static void due(String what, Object want, Call call) {
        Object got = outcome(call);
        if (want.equals(got)) {
            passed++;
            return;
        }
        failed++;
        System.out.println(what + ": due is " + want + ", answered " + got);
    }

    static void refuses(String what, Class<?> exception, Call call) {
        due(what, exception.getSimpleName(), call);
    }

    /** The answer of a call, or the simple name of the class of what it throws. */
    static Object outcome(Call call) {
        try {
            return call.answer();
        } catch (RuntimeException | Error thrown) {
            return thrown.getClass().getSimpleName();
        }
    }

    static int passed() {
        return passed;
    }

    static int failed() {
        return failed;
    }
}
