/** Promises 14 to 21: what can be asked of a match. */
final class StateTest {
    private static final Class<?> ARGUMENT = IllegalArgumentException.class;
    private static final Class<?> BOUNDS = IndexOutOfBoundsException.class;
    private static final Class<?> NONE = java.util.NoSuchElementException.class;
    private static final Class<?> STATE = IllegalStateException.class;

    private StateTest() {
    }

    static void run() {
        now();
        nowOver();
        refusals();
        partnership();
        partnershipOrder();
        fall();
        needed();
        revisedTargets();
        summedTargets();
        results();
        lastNotPlayed();
    }

    private static void now() {
        WicketScorer x = new WicketScorer();
        Check.refuses("now(-1) without a match", ARGUMENT, () -> x.now(-1));
        Check.refuses("now(9) without a match", ARGUMENT, () -> x.now(9));
        Check.due("no reason for a wrong number", 0, x::reason);
        Check.refuses("now(8) without a match", STATE, () -> x.now(8));
        x.begin(3, 2, 0);
        Check.due("no resources with 2 innings", 0, () -> x.now(8));
        Scorers.play(x, "@h1w.C");
        int[] numbers = {0, 0, 2, 0, 7, 3, 3, 3, 0};
        for (int what = 0; what < numbers.length; what++) {
            int w = what;
            Check.due("now(" + w + ")", numbers[w], () -> x.now(w));
        }
        for (int innings = 0; innings < 4; innings++) {
            int i = innings;
            Check.due("innings", i, () -> x.now(0));
            Check.due("team", i % 2, () -> x.now(1));
            if (i < 3) {
                Scorers.play(x, i == 0 ? "1" : "@a1");
                x.declare();
            }
        }
    }

    private static void nowOver() {
        WicketScorer x = Scorers.played(1, 1, "@a3.....@b.1w2");
        Check.due("the match is over", 2, x::result);
        int[] numbers = {1, 1, 1, 0, 1, 2, 2, 1, 14040};
        for (int what = 0; what < numbers.length; what++) {
            int w = what;
            Check.due("now(" + w + ") after the match", numbers[w], () -> x.now(w));
        }
    }

    private static void refusals() {
        WicketScorer x = Scorers.played(5, 1, "@a1.");
        x.declare();
        for (int innings : new int[] {-1, 2, 3, Integer.MAX_VALUE, Integer.MIN_VALUE}) {
            Check.refuses("innings " + innings, BOUNDS, () -> x.innings(innings, -1));
            Check.refuses("batter of innings " + innings, BOUNDS, () -> x.batter(innings, 0, -1));
            Check.refuses("bowler of innings " + innings, BOUNDS, () -> x.bowler(innings, 0, -1));
            Check.refuses("partnership of innings " + innings, BOUNDS, () -> x.partnership(innings, -1, -1));
            Check.refuses("fall of innings " + innings, BOUNDS, () -> x.fall(innings, -1, -1));
        }
        for (int player : new int[] {-1, 11, Integer.MAX_VALUE, Integer.MIN_VALUE}) {
            Check.refuses("batter " + player, BOUNDS, () -> x.batter(0, player, -1));
            Check.refuses("bowler " + player, BOUNDS, () -> x.bowler(0, player, -1));
        }
        for (int index : new int[] {-1, 1, Integer.MAX_VALUE, Integer.MIN_VALUE}) {
            Check.refuses("partnership " + index, NONE, () -> x.partnership(0, index, -1));
            Check.refuses("fall " + index, NONE, () -> x.fall(0, index, -1));
        }
        x.undo();
        Scorers.play(x, "W");
        int[] sizes = {8, 6, 7, 8, 3};
        for (int wrong : new int[] {-1, 0, Integer.MAX_VALUE, Integer.MIN_VALUE}) {
            boolean above = wrong == 0;
            Check.refuses("innings number", ARGUMENT, () -> x.innings(0, above ? sizes[0] : wrong));
            Check.refuses("batter number", ARGUMENT, () -> x.batter(0, 10, above ? sizes[1] : wrong));
            Check.refuses("bowler number", ARGUMENT, () -> x.bowler(0, 10, above ? sizes[2] : wrong));
            Check.refuses("partnership number", ARGUMENT, () -> x.partnership(0, 1, above ? sizes[3] : wrong));
            Check.refuses("fall number", ARGUMENT, () -> x.fall(0, 0, above ? sizes[4] : wrong));
        }
        Check.due("none of these keeps a reason", 0, x::reason);
        x.begin(5, 1, 0);
        Check.refuses("the second innings has not begun", BOUNDS, () -> x.innings(1, 0));
        Check.refuses("no fall", NONE, () -> x.fall(0, 0, 0));
    }

    private static void partnership() {
        WicketScorer x = Scorers.bowling(5);
        x.ball(0, 4, true);
        x.ball(0, 1, false);
        x.ball(0, 2, false);
        x.ball(1, 1, false);
        x.ball(2, 2, false);
        x.ball(3, 1, false);
        x.wicket(5, 0, true, 1, false);
        int[] numbers = {14, 5, 0, 1, 7, 3, 4, 0};
        for (int what = 0; what < numbers.length; what++) {
            int w = what;
            Check.due("partnership(0, 0, " + w + ")", numbers[w], () -> x.partnership(0, 0, w));
        }
        x.ball(4, 2, false);
        int[] next = {2, 1, 1, 2, 0, 0, 2, 1};
        for (int what = 0; what < next.length; what++) {
            int w = what;
            Check.due("partnership(0, 1, " + w + ")", next[w], () -> x.partnership(0, 1, w));
        }
        Check.refuses("no third partnership", NONE, () -> x.partnership(0, 2, 0));
    }

    private static void partnershipOrder() {
        WicketScorer x = Scorers.begun(5, 1, 0);
        x.choose(9);
        x.retire(false, true);
        x.choose(5);
        x.retire(true, true);
        x.bowl(0);
        x.ball(0, 6, true);
        x.ball(0, 3, false);
        x.ball(2, 2, false);
        int[] numbers = {12, 2, 5, 9, 2, 9, 1, 1};
        for (int what = 0; what < numbers.length; what++) {
            int w = what;
            Check.due("partnership(0, 2, " + w + ")", numbers[w], () -> x.partnership(0, 2, w));
        }
        Check.due("lower of the second", 1, () -> x.partnership(0, 1, 2));
        Check.due("higher of the second", 9, () -> x.partnership(0, 1, 3));
        x.declare();
        Check.due("it lasted when the innings ended", 1, () -> x.partnership(0, 2, 7));
    }

    private static void fall() {
        WicketScorer x = Scorers.played(5, 1, "@a4w2");
        x.retire(false, false);
        x.wicket(5, 1, true, 3, false);
        x.wicket(5, 0, true, 1, true);
        int[][] falls = {{1, 11, 1}, {2, 12, 2}};
        for (int index = 0; index < 2; index++) {
            for (int what = 0; what < 3; what++) {
                int i = index;
                int w = what;
                Check.due("fall(0, " + i + ", " + w + ")", falls[i][w], () -> x.fall(0, i, w));
            }
        }
        Check.refuses("a retirement is no wicket", NONE, () -> x.fall(0, 2, 0));
    }

    private static void needed() {
        WicketScorer x = new WicketScorer();
        Check.refuses("needed without a match", STATE, () -> x.needed(true));
        Check.due("no match", 1, x::reason);
        x.begin(5, 1, 0);
        Check.refuses("needed in the first innings", NONE, () -> x.needed(false));
        Scorers.play(x, "@a64");
        x.declare();
        Check.due("target", 11, () -> x.needed(true));
        Check.due("needed", 11, () -> x.needed(false));
        Scorers.play(x, "@a46");
        Check.due("the target stays", 11, () -> x.needed(true));
        Check.due("one run is needed", 1, () -> x.needed(false));
        x.ball(0, 6, true);
        Check.due("none is needed", 0, () -> x.needed(false));
        Check.due("target after the match", 11, () -> x.needed(true));
    }

    private static void revisedTargets() {
        WicketScorer x = Scorers.played(5, 1, "@a66W.w.W");
        x.loseOvers(2);
        // 63000 - 8 * (240 * 24 - 24 * 24) + 8 * (240 * 12 - 12 * 12)
        Check.due("resources of the first innings", 43416, () -> x.now(8));
        x.declare();
        Check.due("resources of the second innings", 39960, () -> x.now(8));
        // 13 * 39960 / 43416 is 11.96
        Check.due("target with fewer resources", 12, () -> x.needed(true));
        WicketScorer y = Scorers.played(20, 1, "@a......@b......@a......@b......@c.....4");
        y.loseOvers(10);
        // 144000 - 10 * (240 * 90 - 8100) + 10 * (240 * 30 - 900)
        Check.due("resources with no wickets lost", 72000, () -> y.now(8));
        y.declare();
        Check.due("more resources", 108000, () -> y.now(8));
        // 4 + 150 * 36000 / 144000 is 41.5
        Check.due("target with more resources", 42, () -> y.needed(true));
        Check.due("no run yet", 42, () -> y.needed(false));
    }

    private static void summedTargets() {
        WicketScorer x = Scorers.played(5, 2, "@a66");
        x.declare();
        Scorers.play(x, "@a5");
        x.declare();
        Scorers.play(x, "@a4");
        Check.refuses("the last innings has not begun", NONE, () -> x.needed(true));
        x.declare();
        Check.due("target of the last innings", 12, () -> x.needed(true));
        Scorers.play(x, "@a6");
        Check.due("needed in the last innings", 6, () -> x.needed(false));
        Check.due("limit of the last innings", 5, () -> x.now(7));
        Check.due("the target is reached", 6, () -> x.ball(0, 6, true));
        Check.due("won", 2, x::result);
        Check.due("end of the last innings", 4, () -> x.innings(3, 7));
    }

    private static void results() {
        for (int first = 0; first < 2; first++) {
            int f = first;
            WicketScorer x = Scorers.begun(1, 1, f);
            Scorers.play(x, "@a4.....");
            Check.due("not over", 0, x::result);
            Scorers.play(x, "@a3.....");
            Check.due("the first team has won", 1 + f, x::result);
            x.undo();
            Scorers.play(x, "@a4.....");
            Check.due("nobody has won", 3, x::result);
            x.undo();
            Scorers.play(x, "@a41");
            Check.due("the second team has won", 2 - f, x::result);
            x.begin(1, 1, f);
            Check.due("no result of a new match", 0, x::result);
        }
    }

    private static void lastNotPlayed() {
        WicketScorer x = Scorers.begun(5, 2, 1);
        Scorers.play(x, "@a1");
        x.declare();
        Scorers.play(x, "@a6");
        x.declare();
        Scorers.play(x, "@a4");
        x.declare();
        Check.due("the last innings is not played", 1, x::result);
        Check.due("the third one is the last", 2, () -> x.now(0));
        Check.due("the bowler stays", 0, () -> x.now(4));
        Check.refuses("no fourth innings", BOUNDS, () -> x.innings(3, 0));
        Check.refuses("no target", NONE, () -> x.needed(true));
        Check.refuses("over", STATE, x::declare);
        x.undo();
        x.ball(0, 1, false);
        x.declare();
        Check.due("a target of 1 is positive", 0, x::result);
        Check.due("target", 1, () -> x.needed(true));
        x.declare();
        Check.due("nobody has won", 3, x::result);
    }
}
