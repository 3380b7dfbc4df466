import java.util.ArrayList;
import java.util.List;

/**
 * "A call that throws an exception leaves the state unchanged, unless its description says otherwise, but for the
 * reason.": each call that throws is made on one of two scorers of the same kind, which must be alike afterwards.
 */
final class UnchangedTest {
    private static final int[] NUMBERS = {Integer.MIN_VALUE, -1, 0, 1, 2, 3, 4, 5, 6, 7, 8, 9, 10, 11, 19, 20, 21,
        Integer.MAX_VALUE};
    private static final boolean[] BOTH = {false, true};
    private static final int KINDS = 8;

    private final int kind;
    private final String all;
    private final String hidden;
    private int thrown = 0;

    interface Made {
        Object on(WicketScorer x);
    }

    private static final class Named {
        final String name;
        final Made made;

        Named(String name, Made made) {
            this.name = name;
            this.made = made;
        }
    }

    private UnchangedTest(int kind) {
        this.kind = kind;
        WicketScorer x = scorer(kind);
        all = Answers.all(x);
        hidden = Answers.hidden(x);
    }

    static void run() {
        for (int kind = 0; kind < KINDS; kind++) {
            UnchangedTest test = new UnchangedTest(kind);
            for (Named call : calls()) {
                test.look(call);
            }
            Check.due("calls that throw, kind " + kind, true, () -> test.thrown > 500);
            test.lookAtTexts();
        }
    }

    private void look(Named call) {
        WicketScorer x = scorer(kind);
        int reason = x.reason();
        String name = "kind " + kind + ", " + call.name;
        Object outcome = Check.outcome(() -> call.made.on(x));
        if (!(outcome instanceof String)) {
            return;
        }
        thrown++;
        if (!outcome.equals("IllegalStateException")) {
            Check.due(name + " keeps no reason", reason, x::reason);
        }
        Check.due(name + " leaves all", true, () -> all.equals(Answers.all(x)));
        Check.due(name + " leaves what is hidden", true, () -> hidden.equals(Answers.hidden(x)));
    }

    /** "The buffer is empty afterwards in any case"; the position and the element are kept; all else stays. */
    private void lookAtTexts() {
        for (String text : new String[] {"", "x", "b", "@a.@a", "@k@j", "............", ".1@b4W@c@c"}) {
            WicketScorer x = scorer(kind);
            WicketScorer y = scorer(kind);
            String name = "kind " + kind + ", play of " + text;
            Check.outcome(x::play);
            Check.outcome(y::play);
            Object outcome = Check.outcome(() -> Scorers.play(x, text));
            if (!(outcome instanceof String)) {
                continue;
            }
            boolean isMalformed = outcome.equals("IllegalArgumentException");
            String told = isMalformed ? "errorPosition=\\S+" : "refused=\\S+";
            Check.due(name + " leaves all else", Answers.all(y).replaceFirst(told, ""),
                    () -> Answers.all(x).replaceFirst(told, ""));
            Check.due(name + " leaves what is hidden", Answers.hidden(y).replaceAll(told, ""),
                    () -> Answers.hidden(x).replaceAll(told, ""));
        }
    }

    /** Scorers that differ in all that can be refused. */
    private static WicketScorer scorer(int kind) {
        WicketScorer x = new WicketScorer();
        switch (kind) {
            case 0:
                return x;
            case 1:
                x.begin(20, 1, 0);
                return x;
            case 2:
                return inAnOver(x, 1);
            case 3:
                inAnOver(x, 2);
                x.play();
                return x;
            case 4:
                inAnOver(x, 1);
                x.play();
                Scorers.play(x, "..");
                return x;
            case 5:
                inAnOver(x, 2);
                x.declare();
                x.declare();
                Scorers.put(x, ".".repeat(59));
                return x;
            case 6:
                inAnOver(x, 1);
                x.declare();
                x.declare();
                return x;
            default:
                inAnOver(x, 2);
                for (int innings = 0; innings < 4; innings++) {
                    x.declare();
                }
                return x;
        }
    }

    /** With a choice, somebody hurt, both rows, a snapshot, both positions, a reason, and "2" in the buffer. */
    private static WicketScorer inAnOver(WicketScorer x, int each) {
        x.begin(3, each, 1);
        Scorers.play(x, "@a1W4");
        x.storeOvers(0, 0, true);
        x.snapshot();
        x.retire(true, true);
        Check.outcome(() -> Scorers.play(x, ".x"));
        Check.outcome(() -> Scorers.play(x, ".@c"));
        x.storeOvers(1, 0, each == 1);
        for (int ball = 0; ball < 9; ball++) {
            x.ball(1, 0, false);
        }
        x.choose(10);
        x.append('2');
        return x;
    }

    private static List<Named> calls() {
        List<Named> calls = new ArrayList<>();
        for (int n : NUMBERS) {
            calls.add(new Named("begin(" + n + ", 1, 0)", x -> x.begin(n < 1 || n > 20 ? n : 0, 1, 0)));
            calls.add(new Named("begin(5, " + n + ", 0)", x -> x.begin(5, n == 1 || n == 2 ? 0 : n, 0)));
            calls.add(new Named("begin(5, 1, " + n + ")", x -> x.begin(5, 1, n == 0 || n == 1 ? 2 : n)));
            calls.add(new Named("bowl(" + n + ")", x -> x.bowl(n)));
            calls.add(new Named("choose(" + n + ")", x -> x.choose(n)));
            calls.add(new Named("loseOvers(" + n + ")", x -> x.loseOvers(n)));
            calls.add(new Named("append(" + n + ")", x -> x.append((char) n)));
            calls.add(new Named("now(" + n + ")", x -> x.now(n)));
            calls.add(new Named("runRate(" + n + ")", x -> (Double) x.runRate(n)));
            calls.add(new Named("strikeRate(0, " + n + ")", x -> (Float) x.strikeRate(0, n)));
            calls.add(new Named("storedOvers(0, " + n + ")", x -> (Float) x.storedOvers(0, n)));
            calls.add(new Named("storeOvers(" + n + ", 0)", x -> x.storeOvers(n, 0, true)));
            calls.add(new Named("storeOvers(0, " + n + ")", x -> x.storeOvers(0, n, false)));
            calls.add(new Named("copyOvers(0, " + n + ")", x -> x.copyOvers(0, n)));
            calls.add(new Named("copyOvers(" + n + ", 1)", x -> x.copyOvers(n, 1)));
            addWithTwo(calls, n);
        }
        for (boolean yes : BOTH) {
            calls.add(new Named("needed(" + yes + ")", x -> x.needed(yes)));
            calls.add(new Named("retire(" + yes + ")", x -> x.retire(yes, yes)));
        }
        calls.add(new Named("declare", WicketScorer::declare));
        calls.add(new Named("undo", WicketScorer::undo));
        calls.add(new Named("snapshot", WicketScorer::snapshot));
        calls.add(new Named("restore", WicketScorer::restore));
        calls.add(new Named("isReplayed", WicketScorer::isReplayed));
        calls.add(new Named("errorPosition", WicketScorer::errorPosition));
        calls.add(new Named("refused", WicketScorer::refused));
        return calls;
    }

    private static void addWithTwo(List<Named> calls, int n) {
        for (int m : new int[] {-1, 0, 2, 5, 7}) {
            for (boolean yes : BOTH) {
                calls.add(new Named("ball(" + n + ", " + m + ", " + yes + ")", x -> x.ball(n, m, yes)));
                calls.add(new Named("wicket(" + n + ", " + m + ", " + yes + ")", x -> x.wicket(n, m, yes, 0, false)));
            }
            calls.add(new Named("wicket(" + m + ", 0, " + n + ")", x -> x.wicket(m, 0, false, n, true)));
            calls.add(new Named("innings(" + m + ", " + n + ")", x -> x.innings(m, n)));
            calls.add(new Named("batter(" + m + ", 0, " + n + ")", x -> x.batter(m, 0, n)));
            calls.add(new Named("batter(0, " + m + ", " + n + ")", x -> x.batter(0, m, n)));
            calls.add(new Named("bowler(" + m + ", 0, " + n + ")", x -> x.bowler(m, 0, n)));
            calls.add(new Named("partnership(" + m + ", 0, " + n + ")", x -> x.partnership(m, 0, n)));
            calls.add(new Named("partnership(0, " + m + ", " + n + ")", x -> x.partnership(0, m, n)));
            calls.add(new Named("fall(" + m + ", 0, " + n + ")", x -> x.fall(m, 0, n)));
            calls.add(new Named("fall(0, " + m + ", " + n + ")", x -> x.fall(0, m, n)));
        }
    }
}
