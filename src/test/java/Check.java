import java.util.function.IntUnaryOperator;

/** Counts the answers that are due and those that are not. */
final class Check {
    interface Call {
        Object answer();
    }

    private static int passed = 0;
    private static int failed = 0;

    private Check() {
    }

    static void due(String what, Object want, Call call) {
        Object got = outcome(call);
        if (want.equals(got)) {
            passed++;
            return;
        }
        failed++;
        System.out.println(what + ": due is " + want + ", answered " + got);
    }

    static void refuses(String what, Class<?> exception, Call call) {
        due(what, exception.getSimpleName(), call);
    }

    /** A row of numbers that one method tells, the number of each being its argument. */
    static void row(String what, int[] want, IntUnaryOperator numbers) {
        for (int at = 0; at < want.length; at++) {
            int number = at;
            due(what + ", " + number, want[number], () -> numbers.applyAsInt(number));
        }
    }

    /** A call that throws IllegalStateException and keeps this reason, which was not kept before. */
    static void reasoned(String what, int reason, WicketScorer x, Call call) {
        due(what + ", reason before", true, () -> x.reason() != reason);
        refuses(what, IllegalStateException.class, call);
        due(what + ", reason", reason, x::reason);
    }

    /** The answer of a call, or the simple name of the class of what it throws. */
    static Object outcome(Call call) {
        try {
            return call.answer();
        } catch (RuntimeException | Error thrown) {
            return thrown.getClass().getSimpleName();
        }
    }

    static int passed() {
        return passed;
    }

    static int failed() {
        return failed;
    }
}
