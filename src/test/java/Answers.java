import java.util.function.IntUnaryOperator;

/** Everything that a scorer answers without being changed, as a text, and a command of each kind. */
final class Answers {
    static final int COMMANDS = 9;

    private Answers() {
    }

    private static void add(StringBuilder all, String name, Check.Call call) {
        all.append(name).append('=').append(Check.outcome(call)).append(' ');
    }

    /**
     * All but the reason, which some of these calls change. They are more than 512, which this program bears,
     * for no call that only asks leaves a trace in it.
     */
    static String all(WicketScorer x) {
        StringBuilder all = new StringBuilder();
        add(all, "commandCount", x::commandCount);
        add(all, "errorPosition", x::errorPosition);
        add(all, "refused", x::refused);
        add(all, "result", x::result);
        add(all, "target", () -> x.needed(true));
        add(all, "needed", () -> x.needed(false));
        for (int what = 0; what <= 8; what++) {
            int w = what;
            add(all, "now" + w, () -> x.now(w));
        }
        for (int innings = 0; innings < 4; innings++) {
            addInnings(all, x, innings);
        }
        for (int row = 0; row <= 1; row++) {
            int r = row;
            addRows(all, "row" + r + ".", at -> Float.floatToIntBits(x.storedOvers(r, at)));
        }
        return all.toString();
    }

    private static void addInnings(StringBuilder all, WicketScorer x, int innings) {
        add(all, "runRate" + innings, () -> x.runRate(innings));
        if (all.lastIndexOf("IndexOutOfBoundsException") == all.length() - "IndexOutOfBoundsException ".length()) {
            return;
        }
        for (int what = 0; what <= 7; what++) {
            int w = what;
            add(all, "innings" + innings + "." + w, () -> x.innings(innings, w));
            addRows(all, "partnership", at -> x.partnership(innings, at, w));
            addRows(all, "batter", at -> x.batter(innings, at, Math.min(w, 5)));
            addRows(all, "bowler", at -> x.bowler(innings, at, Math.min(w, 6)));
            addRows(all, "fall", at -> x.fall(innings, at, Math.min(w, 2)));
        }
    }

    /** Asks for a number of each row, from 0 on, until there is none. */
    private static void addRows(StringBuilder all, String name, IntUnaryOperator rows) {
        boolean isThere = true;
        for (int row = 0; isThere; row++) {
            int at = row;
            Object answer = Check.outcome(() -> rows.applyAsInt(at));
            all.append(name).append(at).append('=').append(answer).append(' ');
            isThere = answer instanceof Integer;
        }
    }

    /** What shows by calls that change the scorer alone: the buffer, what can be undone, and the snapshot. */
    static String hidden(WicketScorer x) {
        StringBuilder all = new StringBuilder();
        add(all, "append", () -> x.append('4'));
        for (int time = 0; time < 9; time++) {
            add(all, "undo", x::undo);
        }
        all.append(all(x));
        add(all, "restore", x::restore);
        return all.append(all(x)).toString();
    }

    /** Makes a command of a kind, 0 to 8; returns whether it was carried out. */
    static boolean command(WicketScorer x, int kind) {
        int before = x.commandCount();
        Check.outcome(() -> {
            switch (kind) {
                case 0:
                    return x.ball(0, 0, false);
                case 1:
                    return x.ball(2, 6, true);
                case 2:
                    return x.wicket(5, 0, true, 0, true);
                case 3:
                    return x.retire(false, true);
                case 4:
                    return x.choose(10);
                case 5:
                    return x.declare();
                case 6:
                    return x.loseOvers(1);
                case 7:
                    return Scorers.play(x, ".@c.W");
                default:
                    return x.ball(1, 0, false);
            }
        });
        return x.commandCount() == before + 1;
    }
}
