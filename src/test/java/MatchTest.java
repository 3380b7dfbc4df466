/** Promises 1 to 9: a new object, and what makes a match go on. */
final class MatchTest {
    private static final Class<?> ARGUMENT = IllegalArgumentException.class;
    private static final Class<?> STATE = IllegalStateException.class;
    private static final Class<?> BOUNDS = IndexOutOfBoundsException.class;
    private static final Class<?> NONE = java.util.NoSuchElementException.class;

    private MatchTest() {
    }

    static void run() {
        newObject();
        begin();
        beginKeeps();
        bowl();
        bowlQuota();
        ball();
        ballRuns();
        ballEnds();
        overEnds();
        wicketRefused();
        wicketCards();
        wicketEnds();
        wicketLast();
        retire();
        retireHurtLast();
        choose();
        declare();
        loseOvers();
        loseOversReachesTarget();
        inningsEnd();
    }

    private static void newObject() {
        WicketScorer x = new WicketScorer();
        Check.due("new result", 0, x::result);
        Check.due("new commandCount", 0, x::commandCount);
        Check.due("new reason", 0, x::reason);
        Check.refuses("new errorPosition", NONE, x::errorPosition);
        Check.refuses("new refused", NONE, x::refused);
        Check.refuses("new innings", BOUNDS, () -> x.innings(0, 0));
        Check.refuses("new storedOvers", NONE, () -> x.storedOvers(0, 0));
        Check.refuses("new undo", STATE, x::undo);
        Check.due("new undo reason", 7, x::reason);
        Check.refuses("new now", STATE, () -> x.now(0));
        Check.due("new now reason", 1, x::reason);
        for (int player : new int[] {0, 10}) {
            Check.refuses("new bowl", STATE, () -> x.bowl(player));
            Check.refuses("new choose", STATE, () -> x.choose(player));
        }
        Check.refuses("new ball", STATE, () -> x.ball(0, 0, false));
        Check.refuses("new wicket", STATE, () -> x.wicket(0, 0, false, 0, false));
        Check.refuses("new retire", STATE, () -> x.retire(false, false));
        Check.refuses("new declare", STATE, x::declare);
        Check.refuses("new loseOvers", STATE, () -> x.loseOvers(1));
        Check.due("new reason then", 1, x::reason);
    }

    private static void begin() {
        WicketScorer x = new WicketScorer();
        int[][] quotas = {{1, 1}, {5, 1}, {6, 2}, {10, 2}, {11, 3}, {15, 3}, {16, 4}, {20, 4}};
        for (int[] quota : quotas) {
            Check.due("begin with " + quota[0] + " overs", quota[1], () -> x.begin(quota[0], 1, 0));
        }
        x.begin(7, 2, 1);
        x.bowl(3);
        int[][] wrong = {{0, 1, 0}, {21, 1, 0}, {-1, 1, 0}, {5, 0, 0}, {5, 3, 0}, {5, 1, -1}, {5, 1, 2}};
        for (int[] w : wrong) {
            Check.refuses("begin(" + w[0] + ", " + w[1] + ", " + w[2] + ")", ARGUMENT,
                    () -> x.begin(w[0], w[1], w[2]));
        }
        Check.due("a refused begin leaves the match", 1, x::commandCount);
        Check.due("a refused begin leaves the bowler", 3, () -> x.now(4));
        int[] numbers = {0, 1, 0, 1, -1, 0, 2, 9, 10 * (240 * 54 - 54 * 54)};
        x.begin(9, 1, 1);
        for (int what = 0; what < numbers.length; what++) {
            int w = what;
            Check.due("now(" + w + ") at the beginning", numbers[w], () -> x.now(w));
        }
        Check.due("no commands at the beginning", 0, x::commandCount);
        Check.refuses("no undo at the beginning", STATE, x::undo);
        Check.due("first partnership", 1, () -> x.partnership(0, 0, 3));
    }

    private static void beginKeeps() {
        WicketScorer x = Scorers.played(2, 1, "@a12");
        x.storeOvers(0, 0, true);
        x.snapshot();
        Check.refuses("begin keeps: malformed", ARGUMENT, () -> Scorers.play(x, ".x"));
        Check.refuses("begin keeps: refused", UnsupportedOperationException.class,
                () -> Scorers.play(x, ".@b"));
        x.append('4');
        x.begin(3, 2, 1);
        Check.due("begin keeps the error position", 1, x::errorPosition);
        Check.due("begin keeps the refused element", 1, x::refused);
        Check.due("begin keeps the reason", 2, x::reason);
        Check.due("begin keeps the rows", 3.0f, () -> x.storedOvers(0, 0));
        Check.due("begin keeps the buffer", 2, () -> x.append('.'));
        Check.due("begin keeps the snapshot", 1, x::restore);
        Check.due("restored after begin", 3, () -> x.innings(0, 0));
        Check.due("restored limit", 2, () -> x.now(7));
    }

    private static void bowl() {
        WicketScorer x = new WicketScorer();
        Check.refuses("bowl(-1) before the match", BOUNDS, () -> x.bowl(-1));
        Check.refuses("bowl(11) before the match", BOUNDS, () -> x.bowl(11));
        Check.due("no reason for a wrong player", 0, x::reason);
        x.begin(20, 1, 0);
        Check.due("bowl(10)", 0, () -> x.bowl(10));
        Check.refuses("bowl(10) again", STATE, () -> x.bowl(10));
        Check.due("somebody bowls", 2, x::reason);
        Check.due("bowler", 10, () -> x.now(4));
        Scorers.play(x, "......");
        Check.due("nobody bowls after an over", -1, () -> x.now(4));
        Check.refuses("bowl(10) after its over", STATE, () -> x.bowl(10));
        Check.due("not two in succession", 4, x::reason);
        Scorers.play(x, "@a......");
        Check.due("bowl(10) after another's", 1, () -> x.bowl(10));
        Scorers.play(x, "......@b......");
        Check.due("bowl(10) once more", 2, () -> x.bowl(10));
        x.declare();
        Check.due("a new innings has new bowlers", 0, () -> x.bowl(10));
        x.declare();
        Check.refuses("bowl after the match", STATE, () -> x.bowl(1));
        Check.due("the match is over", 1, x::reason);
    }

    private static void bowlQuota() {
        WicketScorer x = Scorers.played(6, 1, "@a......@b......@a......@b......");
        Check.refuses("third over of two", STATE, () -> x.bowl(0));
        Check.due("as many overs as possible", 4, x::reason);
        Check.due("loseOvers", 5, () -> x.loseOvers(1));
        Check.due("bowl by a third", 0, () -> x.bowl(2));
        WicketScorer y = Scorers.begun(6, 1, 0);
        y.loseOvers(1);
        Scorers.play(y, "@a......@b......");
        Check.due("the limit at the beginning counts", 1, () -> y.bowl(0));
        Scorers.play(y, "......@b......@c......");
        Check.due("the second innings has the lower limit", 5, () -> y.now(7));
        Scorers.play(y, "@a......@b......");
        Check.refuses("its quota is that of its limit", STATE, () -> y.bowl(0));
    }

    private static void ball() {
        WicketScorer x = new WicketScorer();
        int[][] wrong = {{-1, 0}, {5, 1}, {0, -1}, {0, 7}, {1, -1}, {1, 5}, {2, -1}, {2, 7}, {3, 0}, {3, 5},
            {4, 0}, {4, 5}, {Integer.MAX_VALUE, 0}, {0, Integer.MIN_VALUE}};
        for (int[] w : wrong) {
            Check.refuses("ball(" + w[0] + ", " + w[1] + ")", ARGUMENT, () -> x.ball(w[0], w[1], false));
        }
        int[][] noBoundary = {{0, 0}, {0, 1}, {0, 2}, {0, 3}, {0, 5}, {1, 4}, {2, 5}, {2, 0}, {3, 4}, {4, 4}};
        for (int[] w : noBoundary) {
            Check.refuses("boundary(" + w[0] + ", " + w[1] + ")", ARGUMENT, () -> x.ball(w[0], w[1], true));
        }
        Check.refuses("ball without a match", STATE, () -> x.ball(0, 4, true));
        Check.due("no match", 1, x::reason);
        x.begin(2, 1, 0);
        Check.refuses("ball without a bowler", STATE, () -> x.ball(0, 4, true));
        Check.due("nobody bowls", 3, x::reason);
        Check.refuses("wrong ball without a bowler", ARGUMENT, () -> x.ball(0, 5, true));
        Check.due("no command", 0, x::commandCount);
    }

    private static void ballRuns() {
        WicketScorer x = Scorers.bowling(2);
        Check.due("hit", 6, () -> x.ball(0, 6, true));
        Check.due("run four", 4, () -> x.ball(0, 4, false));
        Check.due("wide", 5, () -> x.ball(1, 4, false));
        Check.due("no-ball", 7, () -> x.ball(2, 6, true));
        Check.due("no-ball without runs", 1, () -> x.ball(2, 0, false));
        Check.due("byes", 4, () -> x.ball(3, 4, false));
        Check.due("leg byes", 2, () -> x.ball(4, 2, false));
        int[] totals = {29, 0, 4, 5, 2, 4, 2, 0};
        for (int what = 0; what < totals.length; what++) {
            int w = what;
            Check.due("innings(0, " + w + ")", totals[w], () -> x.innings(0, w));
        }
        int[] batter = {16, 6, 0, 2, -1, -1};
        for (int what = 0; what < batter.length; what++) {
            int w = what;
            Check.due("batter(0, 0, " + w + ")", batter[w], () -> x.batter(0, 0, w));
        }
        int[] bowler = {4, 23, 0, 0, 1, 2, 0};
        for (int what = 0; what < bowler.length; what++) {
            int w = what;
            Check.due("bowler(0, 0, " + w + ")", bowler[w], () -> x.bowler(0, 0, w));
        }
    }

    private static void ballEnds() {
        int[][] balls = {{0, 1}, {0, 3}, {0, 5}, {1, 1}, {1, 3}, {2, 1}, {2, 3}, {3, 1}, {4, 3}};
        WicketScorer x = Scorers.begun(20, 1, 0);
        for (int[] b : balls) {
            x.begin(20, 1, 0);
            x.bowl(0);
            x.ball(b[0], b[1], false);
            Check.due("odd runs of kind " + b[0] + " change ends", 1, () -> x.now(2));
            x.ball(0, 2, false);
            x.ball(1, 0, false);
            x.ball(2, 0, false);
            x.ball(0, 4, true);
            Check.due("even runs do not change ends", 1, () -> x.now(2));
        }
    }

    private static void overEnds() {
        WicketScorer x = Scorers.played(3, 1, "@a.....b3");
        Check.due("odd runs and the over's end", 0, () -> x.now(2));
        Check.due("a maiden with byes", 1, () -> x.bowler(0, 0, 3));
        Check.due("a complete over", 1, () -> x.bowler(0, 0, 6));
        Check.due("no balls of the present over", 0, () -> x.now(5));
        Scorers.play(x, "@b......");
        Check.due("over's end alone", 1, () -> x.now(2));
        Scorers.play(x, "@cw.....");
        Check.due("5 legal balls", 5, () -> x.now(5));
        x.ball(0, 0, false);
        Check.due("a wide spoils the maiden", 0, () -> x.bowler(0, 2, 3));
        Check.due("overs are complete", 1, () -> x.innings(0, 7));
        Check.due("next innings", 1, () -> x.now(0));
    }

    private static void wicketRefused() {
        WicketScorer x = new WicketScorer();
        int[][] wrong = {{-1, 0, 0}, {6, 0, 0}, {0, -1, 0}, {0, 3, 0}, {5, 0, -1}, {5, 0, 4}, {0, 4, 0}};
        for (int[] w : wrong) {
            Check.refuses("wicket(" + w[0] + ", " + w[1] + ", " + w[2] + ")", ARGUMENT,
                    () -> x.wicket(w[0], w[1], false, w[2], false));
        }
        Check.refuses("wicket without a match", STATE, () -> x.wicket(0, 2, true, 3, true));
        Check.due("no match", 1, x::reason);
        x.begin(5, 1, 0);
        Check.refuses("wicket without a bowler", STATE, () -> x.wicket(0, 2, true, 3, true));
        Check.due("nobody bowls", 3, x::reason);
        x.bowl(0);
        int[][] impossible = {{0, 1}, {0, 2}, {1, 1}, {1, 2}, {2, 1}, {2, 2}, {3, 2}, {4, 1}, {4, 2}};
        for (int[] w : impossible) {
            x.now(0);
            Check.refuses("wicket(" + w[0] + ", " + w[1] + ")", STATE,
                    () -> x.wicket(w[0], w[1], false, 0, false));
        }
        Check.due("such a ball", 6, x::reason);
        for (int way = 0; way < 5; way++) {
            int w = way;
            Check.refuses("the other is out in the way " + w, STATE, () -> x.wicket(w, 0, true, 0, false));
            Check.refuses("runs in the way " + w, STATE, () -> x.wicket(w, 0, false, 1, false));
            Check.due("crossing in the way " + w, w == 1 ? (Object) 1 : "IllegalStateException",
                    () -> x.wicket(w, 0, false, 0, true));
        }
        Check.due("one wicket", 1, () -> x.innings(0, 1));
        Check.due("commands", 2, x::commandCount);
    }

    private static void wicketCards() {
        WicketScorer x = Scorers.bowling(5);
        Check.due("bowled", 1, () -> x.wicket(0, 0, false, 0, false));
        Check.due("stumped on a wide", 2, () -> x.wicket(3, 1, false, 0, false));
        Check.due("run out on a no-ball", 3, () -> x.wicket(5, 2, true, 2, false));
        Check.due("run out on a wide", 4, () -> x.wicket(5, 1, false, 2, false));
        Check.due("run out on a hit", 5, () -> x.wicket(5, 0, false, 2, false));
        int[] totals = {9, 5, 2, 4, 1, 0, 0, 0};
        for (int what = 0; what < totals.length; what++) {
            int w = what;
            Check.due("totals of wickets, " + w, totals[w], () -> x.innings(0, w));
        }
        int[] bowler = {2, 9, 2, 0, 2, 1, 0};
        for (int what = 0; what < bowler.length; what++) {
            int w = what;
            Check.due("bowler of wickets, " + w, bowler[w], () -> x.bowler(0, 0, w));
        }
        int[][] batters = {{0, 1, 0, 0}, {0, 0, 5, -1}, {0, 0, 3, 0}, {2, 1, 5, -1}, {0, 0, -1, -1}, {2, 1, 5, -1}};
        for (int player = 0; player < batters.length; player++) {
            int p = player;
            Check.due("runs of batter " + p, batters[p][0], () -> x.batter(0, p, 0));
            Check.due("balls of batter " + p, batters[p][1], () -> x.batter(0, p, 1));
            Check.due("how batter " + p + " stands", batters[p][2], () -> x.batter(0, p, 4));
            Check.due("who took batter " + p, batters[p][3], () -> x.batter(0, p, 5));
        }
        int[][] falls = {{0, 0, 1}, {2, 1, 1}, {1, 4, 1}, {3, 7, 1}, {5, 9, 2}};
        for (int index = 0; index < falls.length; index++) {
            for (int what = 0; what < 3; what++) {
                int i = index;
                int w = what;
                Check.due("fall(0, " + i + ", " + w + ")", falls[i][w], () -> x.fall(0, i, w));
            }
        }
    }

    private static void wicketEnds() {
        Object[][] cases = {
            {5, false, 0, false, 2, 1}, {5, false, 1, false, 1, 2}, {5, false, 0, true, 1, 2},
            {5, false, 1, true, 2, 1}, {5, true, 0, false, 0, 2}, {5, true, 1, false, 2, 0},
            {5, true, 0, true, 2, 0}, {5, true, 3, true, 0, 2}, {1, false, 0, true, 1, 2},
            {1, false, 0, false, 2, 1}};
        for (Object[] c : cases) {
            WicketScorer x = Scorers.bowling(5);
            x.wicket((int) c[0], 0, (boolean) c[1], (int) c[2], (boolean) c[3]);
            String name = c[0] + ", " + c[1] + ", " + c[2] + ", " + c[3];
            Check.due("striker after " + name, c[4], () -> x.now(2));
            Check.due("other batter after " + name, c[5], () -> x.now(3));
        }
        WicketScorer x = Scorers.played(5, 1, "@a.....W");
        Check.due("the next batter came in before the over's end", 1, () -> x.now(2));
        Check.due("and is at the other end now", 2, () -> x.now(3));
    }

    private static void wicketLast() {
        WicketScorer x = Scorers.begun(5, 1, 0);
        Scorers.play(x, "@aWWWWWW@bWWW");
        Check.due("nobody can come in", -1, () -> x.now(6));
        Check.refuses("nobody can be chosen", STATE, () -> x.choose(10));
        Check.due("ten wickets", 10, () -> x.wicket(5, 0, false, 1, false));
        Check.due("nobody came in", 2, () -> x.innings(0, 7));
        Check.due("runs of the last ball", 1, () -> x.innings(0, 0));
        Check.due("partnerships", "NoSuchElementException", () -> x.partnership(0, 10, 0));
        Check.due("the last partnership is over", 0, () -> x.partnership(0, 9, 7));
        Check.due("next innings", 1, () -> x.now(0));
        Scorers.play(x, "@aWWWWWW@bWWW");
        x.wicket(5, 0, false, 0, false);
        Check.due("who is out stays", 10, () -> Math.max(x.now(2), x.now(3)));
        Check.due("result", 1, x::result);
        Check.due("the bowler stays", 1, () -> x.now(4));
        Check.due("legal balls stay", 4, () -> x.now(5));
        WicketScorer y = Scorers.begun(2, 1, 0);
        Scorers.play(y, "@aWWWWWW@b.WWWR");
        Check.due("out of ten wickets, the last on the last ball but one", 2, () -> y.innings(0, 7));
        WicketScorer z = Scorers.begun(2, 1, 0);
        Scorers.play(z, "@aWWWWWW@b..WWWW");
        Check.due("overs complete and nobody came in", 2, () -> z.innings(0, 7));
        Check.due("the over is complete all the same", 1, () -> z.bowler(0, 1, 6));
    }

    private static void retire() {
        WicketScorer x = new WicketScorer();
        x.begin(5, 1, 0);
        Check.due("retire hurt before a ball", 2, () -> x.retire(false, true));
        Check.due("striker", 2, () -> x.now(2));
        Check.due("retired hurt", 6, () -> x.batter(0, 0, 4));
        Check.due("retire out", 3, () -> x.retire(true, false));
        Check.due("other batter", 3, () -> x.now(3));
        Check.due("retired out", 7, () -> x.batter(0, 1, 4));
        Check.due("no bowler", -1, () -> x.batter(0, 1, 5));
        Check.due("no wicket falls", 0, () -> x.innings(0, 1));
        Check.refuses("no fall", NONE, () -> x.fall(0, 0, 0));
        Check.due("a partnership for each", 1, () -> x.partnership(0, 2, 7));
        Check.due("the one before is over", 0, () -> x.partnership(0, 1, 7));
        x.declare();
        x.declare();
        Check.refuses("retire after the match", STATE, () -> x.retire(false, false));
        Check.due("the match is over", 1, x::reason);
    }

    private static void retireHurtLast() {
        WicketScorer x = Scorers.begun(5, 1, 0);
        Scorers.play(x, "@a4.");
        Check.due("player 0 retires hurt", 2, () -> x.retire(false, true));
        for (int next = 3; next < 11; next++) {
            int n = next;
            Check.due("player " + n + " comes in", n, () -> x.retire(false, false));
        }
        Check.due("player 0 is the next", 0, () -> x.now(6));
        Check.due("player 0 comes back", 0, () -> x.retire(false, false));
        Check.due("player 0 is batting", -1, () -> x.batter(0, 0, 4));
        Check.due("with his runs", 4, () -> x.batter(0, 0, 0));
        Check.due("nobody is next", -1, () -> x.now(6));
        Check.due("nobody follows upon himself", -1, () -> x.retire(false, true));
        Check.due("nobody came in", 2, () -> x.innings(0, 7));
        Check.due("he retired hurt", 6, () -> x.batter(0, 0, 4));
        Check.due("the next innings", 1, () -> x.now(0));
    }

    private static void choose() {
        WicketScorer x = new WicketScorer();
        Check.refuses("choose(-1)", BOUNDS, () -> x.choose(-1));
        Check.refuses("choose(11)", BOUNDS, () -> x.choose(11));
        x.begin(5, 1, 0);
        Check.refuses("choose(1)", STATE, () -> x.choose(1));
        Check.due("this player cannot come in", 5, x::reason);
        Check.due("choose(10)", 2, () -> x.choose(10));
        Check.due("choose(7) instead", 10, () -> x.choose(7));
        Check.due("next batter", 7, () -> x.now(6));
        Check.due("the chosen one comes in", 7, () -> x.retire(false, true));
        Check.due("the choice is used", 2, () -> x.now(6));
        Check.due("choose who retired hurt", 2, () -> x.choose(0));
        x.bowl(0);
        Check.due("a wicket", 1, () -> x.wicket(5, 0, true, 0, false));
        Check.due("he comes back", 0, () -> x.now(3));
        Check.refuses("who is out cannot be chosen", STATE, () -> x.choose(1));
        x.retire(false, false);
        Check.refuses("who retired out cannot be chosen", STATE, () -> x.choose(7));
        x.choose(9);
        x.declare();
        Check.due("the choice is forgotten", 2, () -> x.now(6));
        x.choose(8);
        x.declare();
        Check.due("forgotten after the match, too", 2, () -> x.now(6));
        Check.refuses("choose after the match", STATE, () -> x.choose(5));
        Check.due("the match is over", 1, x::reason);
    }

    private static void declare() {
        WicketScorer x = Scorers.played(5, 2, "@a46w");
        Check.due("declare", 11, x::declare);
        Check.due("declared", 3, () -> x.innings(0, 7));
        Check.due("next innings", 1, () -> x.now(0));
        Check.due("nobody bowls", -1, () -> x.now(4));
        Check.due("the last partnership lasted", 1, () -> x.partnership(0, 0, 7));
        Check.due("batting when the innings ended", -1, () -> x.batter(0, 1, 4));
        Check.due("declare without runs", 0, x::declare);
        Check.due("third innings", 0, x::declare);
        Check.due("last innings", 0, x::declare);
        Check.due("lost", 1, x::result);
        Check.refuses("declare after the match", STATE, x::declare);
        Check.due("the match is over", 1, x::reason);
    }

    private static void loseOvers() {
        WicketScorer x = new WicketScorer();
        for (int overs : new int[] {0, -1, 20, Integer.MAX_VALUE, Integer.MIN_VALUE}) {
            Check.refuses("loseOvers(" + overs + ")", ARGUMENT, () -> x.loseOvers(overs));
        }
        x.begin(20, 2, 0);
        Check.refuses("in a match with 2 innings", STATE, () -> x.loseOvers(1));
        Check.due("so many overs", 8, x::reason);
        x.begin(20, 1, 0);
        Check.due("loseOvers(19)", 1, () -> x.loseOvers(19));
        Check.refuses("the last over stays", STATE, () -> x.loseOvers(1));
        x.begin(4, 1, 0);
        Scorers.play(x, "@a......@b");
        Check.due("an over that has not begun", 2, () -> x.loseOvers(2));
        x.undo();
        x.ball(1, 0, false);
        Check.refuses("an over begins with a wide", STATE, () -> x.loseOvers(2));
        Check.due("so many", 8, x::reason);
        Check.due("one less", 3, () -> x.loseOvers(1));
        int resources = 10 * (240 * 24 - 24 * 24) - 10 * (240 * 18 - 18 * 18) + 10 * (240 * 12 - 12 * 12);
        Check.due("resources", resources, () -> x.now(8));
        x.declare();
        Check.due("limit of the second innings", 3, () -> x.now(7));
        Check.due("resources of the second innings", 10 * (240 * 18 - 18 * 18), () -> x.now(8));
        x.declare();
        Check.refuses("loseOvers after the match", STATE, () -> x.loseOvers(1));
        Check.due("the match is over", 1, x::reason);
    }

    private static void loseOversReachesTarget() {
        WicketScorer x = Scorers.played(10, 1, "@a6666..");
        x.declare();
        Check.due("target", 25, () -> x.needed(true));
        Scorers.play(x, "@a61....@b");
        Check.due("limit", 3, () -> x.loseOvers(7));
        // 108000 - 10 * (240 * 54 - 54 * 54) + 10 * (240 * 12 - 12 * 12)
        Check.due("resources", 34920, () -> x.now(8));
        // 24 * 34920 / 108000 is 7.76
        Check.due("revised target", 8, () -> x.needed(true));
        Check.due("still to get", 1, () -> x.needed(false));
        x.undo();
        x.ball(0, 1, false);
        Check.due("limit then", 3, () -> x.loseOvers(7));
        Check.due("the target is reached by lost overs", 4, () -> x.innings(1, 7));
        Check.due("won", 2, x::result);
        Check.refuses("over", STATE, () -> x.ball(0, 1, false));
    }

    private static void inningsEnd() {
        WicketScorer x = Scorers.played(1, 1, "@a1.....");
        Check.due("batting team", 1, () -> x.now(1));
        Check.due("target", 2, () -> x.needed(true));
        Scorers.play(x, "@a1....");
        Check.due("not reached", 0, x::result);
        Check.due("a wide reaches it", 1, () -> x.ball(1, 0, false));
        Check.due("target reached", 4, () -> x.innings(1, 7));
        Check.due("the bowler of the over stays", 0, () -> x.now(4));
        Check.due("won", 2, x::result);
        WicketScorer y = Scorers.played(1, 1, "@a1.....@a.....2");
        Check.due("overs complete and target reached", 4, () -> y.innings(1, 7));
        Check.due("nobody bowls after the last over", -1, () -> y.now(4));
        Check.due("the batters have changed ends", 1, () -> y.now(2));
        WicketScorer z = Scorers.played(1, 1, "@a1.....");
        z.bowl(4);
        z.declare();
        Check.due("the bowler of an over that has not begun does not stay", -1, () -> z.now(4));
    }
}
