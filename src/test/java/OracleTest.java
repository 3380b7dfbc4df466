/** Makes the same runs of calls on the program and on the oracle; the numbers are always the same. */
final class OracleTest {
    private static final int RUNS = 120;
    private static final int CALLS = 512;
    private static final String TEXTS = "@a. @b.4 @c16w w4n n6b2l3 W C L R .....6 12. @d 3.. ......";

    private final WicketScorer x = new WicketScorer();
    private final Oracle o = new Oracle();
    private final int style;
    private long seed;
    private String did = "";

    private OracleTest(int run) {
        seed = run * 7919L + 17;
        style = run % 4;
    }

    static void run() {
        for (int run = 0; run < RUNS; run++) {
            new OracleTest(run).play(run);
        }
    }

    private int pick(int count) {
        seed = seed * 6364136223846793005L + 1442695040888963407L;
        return (int) ((seed >>> 33) % count);
    }

    private boolean flip() {
        return pick(2) == 0;
    }

    /** A number from 0 on, and now and then one that is out of range. */
    private int near(int count) {
        int chance = pick(60);
        return chance == 0 ? -1 : chance == 1 ? count : pick(count);
    }

    private void play(int run) {
        for (int call = 0; call < CALLS; call++) {
            boolean same = style == 3 ? anyCall() : matchCall();
            if (same && call % 32 == 31) {
                same = cards();
            }
            if (!same) {
                Check.due("run " + run + ", call " + call + did, "the same", () -> "not the same");
                return;
            }
        }
        Check.due("run " + run, "the same", () -> "the same");
    }

    private boolean same(String call, Check.Call program, Check.Call oracle) {
        Object got = Check.outcome(program);
        Object want = Check.outcome(oracle);
        did = ": " + call + " answered " + got + ", due is " + want;
        return got.equals(want) && x.reason() == o.reason() && x.commandCount() == o.commandCount();
    }

    /** Calls that keep a match going: a bowler when one is missing, and otherwise mostly balls. */
    private boolean matchCall() {
        if (x.commandCount() == 0 && pick(3) > 0 || x.result() > 0 && pick(12) == 0) {
            return begin();
        }
        int bowler = (int) Check.outcome(() -> x.commandCount() == 0 ? -1 : x.now(4));
        int chance = pick(100);
        if (bowler < 0 && chance < 70) {
            return bowl();
        }
        if (chance < 55) {
            return ball();
        }
        if (chance < 72) {
            return wicket();
        }
        return chance < 80 ? text() : anyCall();
    }

    private boolean begin() {
        int overs = style == 0 ? 1 + pick(3) : near(21);
        int innings = near(3);
        int first = near(2);
        return same("begin(" + overs + ", " + innings + ", " + first + ")",
                () -> x.begin(overs, innings, first), () -> o.begin(overs, innings, first));
    }

    private boolean bowl() {
        int player = near(11);
        return same("bowl(" + player + ")", () -> x.bowl(player), () -> o.bowl(player));
    }

    private boolean ball() {
        int kind = pick(4) > 0 ? 0 : near(5);
        int runs = near(7);
        boolean boundary = (runs == 4 || runs == 6) && flip() || pick(50) == 0;
        return same("ball(" + kind + ", " + runs + ", " + boundary + ")",
                () -> x.ball(kind, runs, boundary), () -> o.ball(kind, runs, boundary));
    }

    private boolean wicket() {
        int way = pick(3) > 0 ? 5 : near(6);
        int kind = near(3);
        boolean other = way == 5 && flip() || pick(20) == 0;
        int runs = way == 5 || pick(20) == 0 ? near(4) : 0;
        boolean crossed = flip();
        return same("wicket(" + way + ", " + kind + ", " + other + ", " + runs + ", " + crossed + ")",
                () -> x.wicket(way, kind, other, runs, crossed), () -> o.wicket(way, kind, other, runs, crossed));
    }

    private boolean text() {
        String[] words = TEXTS.split(" ");
        StringBuilder chars = new StringBuilder();
        int bowler = (int) Check.outcome(() -> x.commandCount() == 0 ? -1 : x.now(4));
        if (bowler < 0 && pick(4) > 0) {
            chars.append('@').append((char) ('a' + pick(11)));
        }
        for (int i = pick(4); i >= 0; i--) {
            chars.append(words[pick(words.length)]);
        }
        if (pick(6) == 0) {
            chars.setCharAt(pick(chars.length()), (char) (30 + pick(100)));
        }
        for (char sign : chars.toString().toCharArray()) {
            if (!same("append('" + sign + "')", () -> x.append(sign), () -> o.append(sign))) {
                return false;
            }
        }
        return same("play() of " + chars, x::play, o::play)
                && same("errorPosition()", x::errorPosition, o::errorPosition)
                && same("refused()", x::refused, o::refused);
    }

    private boolean anyCall() {
        int number = near(20);
        int row = near(2);
        int at = near(4);
        boolean yes = flip();
        boolean no = flip();
        switch (pick(style == 0 ? 22 : 18)) {
            case 0:
                return begin();
            case 1:
                return bowl();
            case 2:
                return wicket();
            case 3:
                return text();
            case 4:
            case 5:
                return same("retire(" + yes + ", " + no + ")", () -> x.retire(yes, no), () -> o.retire(yes, no));
            case 6:
            case 7:
                return same("choose(" + number + ")", () -> x.choose(number), () -> o.choose(number));
            case 8:
                return same("loseOvers(" + number % 4 + ")", () -> x.loseOvers(number % 4),
                        () -> o.loseOvers(number % 4));
            case 9:
                return same("declare()", x::declare, o::declare);
            case 10:
            case 18:
            case 19:
                return same("undo()", x::undo, o::undo);
            case 11:
                return same("snapshot()", x::snapshot, o::snapshot);
            case 12:
                return pick(3) > 0 || same("restore()", x::restore, o::restore);
            case 13:
                return same("isReplayed()", x::isReplayed, o::isReplayed);
            case 14:
                return same("copyOvers(" + row + ", " + number + ")", () -> x.copyOvers(row, number % 7),
                        () -> o.copyOvers(row, number % 7));
            case 15:
                return same("storeOvers(" + row + ", " + at + ", " + yes + ")", () -> x.storeOvers(row, at, yes),
                        () -> o.storeOvers(row, at, yes));
            case 16:
                return same("storedOvers(" + row + ", " + number + ")", () -> x.storedOvers(row, number),
                        () -> o.storedOvers(row, number));
            default:
                return ball();
        }
    }

    /** Every number that can be asked, and one beyond each range. */
    private boolean cards() {
        boolean fine = same("needed(true)", () -> x.needed(true), () -> o.needed(true))
                && same("needed(false)", () -> x.needed(false), () -> o.needed(false))
                && same("result()", x::result, o::result) && same("isReplayed()", x::isReplayed, o::isReplayed);
        for (int w = -1; w <= 9 && fine; w++) {
            int what = w;
            fine = same("now(" + what + ")", () -> x.now(what), () -> o.now(what));
        }
        for (int i = -1; i <= 4 && fine; i++) {
            int at = i;
            fine = same("runRate(" + at + ")", () -> x.runRate(at), () -> o.runRate(at));
            for (int w = -1; w <= 8 && fine; w++) {
                fine = cardsOf(at, w);
            }
        }
        return fine;
    }

    private boolean cardsOf(int at, int what) {
        boolean fine = same("innings(" + at + ", " + what + ")", () -> x.innings(at, what), () -> o.innings(at, what));
        for (int p = -1; p <= 12 && fine; p++) {
            int k = p;
            String call = "(" + at + ", " + k + ", " + what + ")";
            fine = same("batter" + call, () -> x.batter(at, k, what), () -> o.batter(at, k, what))
                    && same("bowler" + call, () -> x.bowler(at, k, what), () -> o.bowler(at, k, what))
                    && same("partnership" + call, () -> x.partnership(at, k, what), () -> o.partnership(at, k, what))
                    && same("fall" + call, () -> x.fall(at, k, what), () -> o.fall(at, k, what))
                    && same("strikeRate" + call, () -> x.strikeRate(at, k), () -> o.strikeRate(at, k));
        }
        return fine;
    }
}
