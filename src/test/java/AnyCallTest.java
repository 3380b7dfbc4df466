import java.util.Set;

/** Makes calls with any arguments in any state, far beyond the 512 that count: only what the document names is thrown. */
final class AnyCallTest {
    private static final int[] NUMBERS = {Integer.MIN_VALUE, -2, -1, 0, 1, 2, 3, 4, 5, 6, 7, 8, 9, 10, 11, 20, 21,
        60, 512, Integer.MAX_VALUE};
    private static final Set<String> THROWN = Set.of("IllegalArgumentException", "IllegalStateException",
            "IndexOutOfBoundsException", "NoSuchElementException", "UnsupportedOperationException");
    private static final String SIGNS = "@abk.123456wnblWCLR";

    private long seed;

    private AnyCallTest(long seed) {
        this.seed = seed;
    }

    static void run() {
        for (int run = 0; run < 40; run++) {
            new AnyCallTest(run * 104729L).play(run);
        }
    }

    private int pick(int count) {
        seed = seed * 6364136223846793005L + 1442695040888963407L;
        return (int) ((seed >>> 33) % count);
    }

    private int any() {
        return pick(4) == 0 ? NUMBERS[pick(NUMBERS.length)] : pick(5);
    }

    private boolean flip() {
        return pick(2) == 0;
    }

    private void play(int run) {
        WicketScorer x = new WicketScorer();
        for (int call = 0; call < 3000; call++) {
            Object got = Check.outcome(() -> pick(6) == 0 ? ask(x) : change(x));
            if (got instanceof String && !THROWN.contains(got)) {
                Check.due("any call " + call + " of run " + run, "an answer", () -> got);
                return;
            }
        }
        Check.due("any calls of run " + run, "answers", () -> "answers");
    }

    private Object change(WicketScorer x) {
        switch (pick(16)) {
            case 0:
                return pick(20) == 0 ? x.begin(1 + pick(20), 1 + pick(2), pick(2)) : x.begin(any() - 9, any(), any());
            case 1:
            case 2:
                return x.bowl(pick(11));
            case 3:
                return x.bowl(any());
            case 4:
            case 5:
            case 6:
                return x.ball(any(), any(), flip());
            case 7:
                return x.wicket(any(), any(), flip(), any(), flip());
            case 8:
                return x.retire(flip(), pick(9) > 0);
            case 9:
                return x.choose(any());
            case 10:
                return pick(30) == 0 ? x.declare() : x.loseOvers(any());
            case 11:
            case 12:
                return x.append(pick(20) == 0 ? (char) any() : SIGNS.charAt(pick(SIGNS.length())));
            case 13:
                return pick(5) == 0 ? x.play() : x.append('w');
            case 14:
                return pick(3) == 0 ? x.undo() : x.snapshot();
            default:
                return pick(20) == 0 ? x.restore() : x.ball(1, 0, false);
        }
    }

    private Object ask(WicketScorer x) {
        switch (pick(17)) {
            case 0:
                return x.errorPosition();
            case 1:
                return x.refused();
            case 2:
                return x.now(any());
            case 3:
                return x.innings(any(), any());
            case 4:
                return x.batter(any(), any(), any());
            case 5:
                return x.bowler(any(), any(), any());
            case 6:
                return x.partnership(any(), any(), any());
            case 7:
                return x.fall(any(), any(), any());
            case 8:
                return x.needed(flip());
            case 9:
                return x.result();
            case 10:
                return rate(x);
            case 11:
                return x.storeOvers(any(), any(), flip());
            case 12:
                return x.copyOvers(any(), any());
            case 13:
                return x.storedOvers(any(), any());
            case 14:
                return x.reason();
            case 15:
                return x.commandCount();
            default:
                return x.isReplayed();
        }
    }

    /** Only the rates may throw ArithmeticException, so that it is no sign of a fault here alone. */
    private Object rate(WicketScorer x) {
        try {
            return flip() ? (Object) x.runRate(any()) : (Object) x.strikeRate(any(), any());
        } catch (ArithmeticException named) {
            return 0;
        }
    }
}
