/** "Targets." and promises 9, 20 and 21: a test for each sentence that names an edge, with its words above it. */
final class TargetEdges {
    private static final Class<?> ARGUMENT = IllegalArgumentException.class;
    private static final Class<?> NONE = java.util.NoSuchElementException.class;

    private TargetEdges() {
    }

    static void run() {
        sumOfAllRuns();
        resourcesAtBeginning();
        resourcesOfLostOvers();
        resourcesWithoutWickets();
        noResources();
        limitOfSecondInnings();
        asManyResources();
        fewerResources();
        moreResources();
        lostOversRevise();
        lostOversReachTarget();
        loseOversRanges();
        loseOversLimit();
        overBeginsWithFirstBall();
        loseOversInMatchOfTwo();
        loseOversReasonsInOrder();
        neededRefused();
        neededAtLeastNone();
        neededAfterTheMatch();
        resultBefore();
        resultByOneRun();
    }

    private static int value(int balls, int wickets) {
        return (10 - wickets) * (240 * balls - balls * balls);
    }

    /** "the sum of all runs of the other team, minus the runs of this team in its earlier innings, plus 1." */
    private static void sumOfAllRuns() {
        WicketScorer x = Scorers.played(5, 2, "@a6w4n6b4l3");
        x.declare();
        Scorers.play(x, "@a5w1b2");
        x.declare();
        Scorers.play(x, "@an2");
        x.declare();
        Check.due("25 + 3 - 9 + 1", 20, () -> x.needed(true));
        WicketScorer y = Scorers.begun(5, 2, 1);
        y.declare();
        y.declare();
        y.declare();
        Check.due("0 + 0 - 0 + 1", 1, () -> y.needed(true));
    }

    /** "At its beginning, an innings has the resources of this value.": with the least and the greatest limit. */
    private static void resourcesAtBeginning() {
        int[][] resources = {{1, 14040}, {2, 27360}, {10, 108000}, {19, 143640}, {20, 144000}};
        for (int[] r : resources) {
            WicketScorer x = Scorers.begun(r[0], 1, 0);
            Check.due("resources of " + r[0] + " overs", r[1], () -> x.now(8));
            Scorers.play(x, "@a.W4");
            Check.due("balls and wickets leave them", r[1], () -> x.now(8));
            x.declare();
            Check.due("the second innings has its own", r[1], () -> x.now(8));
        }
    }

    /** "When overs are lost, the limit decreases, and the resources by the value before minus the value after." */
    private static void resourcesOfLostOvers() {
        WicketScorer x = Scorers.played(10, 1, "@aw.WnC3");
        x.loseOvers(3);
        int once = 108000 - value(56, 2) + value(38, 2);
        Check.due("4 legal balls, 2 wickets, 3 overs", once, () -> x.now(8));
        x.ball(0, 0, false);
        x.wicket(5, 2, false, 0, false);
        x.loseOvers(1);
        int twice = once - value(37, 3) + value(31, 3);
        Check.due("5 legal balls, 3 wickets, 1 over more", twice, () -> x.now(8));
        Check.due("limit", 6, () -> x.now(7));
    }

    /** "w the number of wickets that fell": none to nine, and who retired out is no wicket. */
    private static void resourcesWithoutWickets() {
        for (int wickets = 0; wickets <= 9; wickets++) {
            WicketScorer x = Scorers.begun(20, 1, 0);
            for (int wicket = 0; wicket < wickets; wicket++) {
                Scorers.play(x, wicket == 0 ? "@aW" : wicket == 6 ? "@bW" : "W");
            }
            x.loseOvers(1);
            int due = 144000 - value(120 - wickets, wickets) + value(114 - wickets, wickets);
            Check.due("an over lost after " + wickets + " wickets", due, () -> x.now(8));
        }
        WicketScorer y = Scorers.begun(20, 1, 0);
        y.retire(false, false);
        y.loseOvers(1);
        Check.due("an over lost after a retirement", 143640, () -> y.now(8));
    }

    /** Promise 14: "8 for its resources, 0 in matches with 2 innings for each team" */
    private static void noResources() {
        WicketScorer x = Scorers.begun(20, 2, 0);
        for (int innings = 0; innings < 4; innings++) {
            Check.due("no resources in the innings " + innings, 0, () -> x.now(8));
            x.declare();
        }
        Check.due("nor after the match", 0, () -> x.now(8));
    }

    /** "The limit of the second innings is at its beginning that of the first one at its end." */
    private static void limitOfSecondInnings() {
        WicketScorer x = Scorers.begun(20, 1, 0);
        x.loseOvers(1);
        x.loseOvers(17);
        x.declare();
        Check.due("limit", 2, () -> x.now(7));
        Check.due("resources", 27360, () -> x.now(8));
        Check.due("one over can be lost", 1, () -> x.loseOvers(1));
        x.undo();
        Scorers.play(x, "@a......@b.....");
        Check.due("the second over is played", 0, x::result);
        x.ball(0, 0, false);
        Check.due("no third one", 3, x::result);
    }

    /** "if s is not greater than r": as many. */
    private static void asManyResources() {
        WicketScorer x = Scorers.played(10, 1, "@a66");
        x.declare();
        Check.due("one run more than the other team", 13, () -> x.needed(true));
        WicketScorer y = Scorers.begun(20, 1, 0);
        Scorers.play(y, "@a");
        y.loseOvers(10);
        y.ball(0, 5, false);
        y.declare();
        Check.due("as many after lost overs", 6, () -> y.needed(true));
    }

    /** "the target is t * s / r, rounded down, plus 1": with s / r being 7 / 12. */
    private static void fewerResources() {
        int[][] targets = {{0, 1}, {1, 1}, {2, 2}, {11, 7}, {12, 8}, {13, 8}, {23, 14}, {24, 15}};
        for (int[] t : targets) {
            WicketScorer x = Scorers.begun(10, 1, 0);
            int left = t[0];
            x.bowl(0);
            while (left > 0) {
                int runs = Math.min(4, left);
                x.ball(1, runs - 1, false);
                left -= runs;
            }
            x.declare();
            x.loseOvers(5);
            Check.due("resources", 63000, () -> x.now(8));
            Check.due("target of " + t[0] + " runs", t[1], () -> x.needed(true));
        }
    }

    /** "otherwise t + 150 * (s - r) / 144000, rounded down after the division, plus 1.": s - r is 1200 for each ball. */
    private static void moreResources() {
        int[][] more = {{0, 0}, {1, 1}, {2, 2}, {3, 3}, {4, 5}, {5, 6}, {6, 7}, {7, 8}, {8, 10}, {51, 63}, {52, 65},
            {53, 66}, {54, 67}};
        for (int[] m : more) {
            int balls = m[0];
            WicketScorer x = Scorers.begun(20, 1, 0);
            for (int ball = 0; ball < balls; ball++) {
                if (ball % 6 == 0) {
                    x.bowl(ball / 6);
                }
                x.ball(0, 0, false);
            }
            x.loseOvers(10);
            if (balls % 6 == 0) {
                x.bowl(9);
            }
            x.ball(1, 3, false);
            x.declare();
            Check.due("target of 4 runs after " + balls + " balls", 4 + m[1] + 1, () -> x.needed(true));
        }
    }

    /** "it is revised by resources": whenever overs are lost in the second innings. */
    private static void lostOversRevise() {
        WicketScorer x = Scorers.played(10, 1, "@a666666@b666666@c666666");
        x.declare();
        Check.due("target at the beginning", 109, () -> x.needed(true));
        x.loseOvers(5);
        Check.due("7 / 12 of 108 runs", 64, () -> x.needed(true));
        x.loseOvers(1);
        // 108 * 51840 / 108000 is 51.84
        Check.due("51840 / 108000 of 108 runs", 52, () -> x.needed(true));
        x.undo();
        Check.due("undone", 64, () -> x.needed(true));
        Scorers.play(x, "@a66");
        x.loseOvers(1);
        // 63000 - (240 * 28 - 784) * 10 + (240 * 22 - 484) * 10 is 51600; 108 * 51600 / 108000 is 51.6
        Check.due("balls that were bowled count", 52, () -> x.needed(true));
        Check.due("needed", 40, () -> x.needed(false));
    }

    /** "all this is looked at after everything else ..., lost overs included." */
    private static void lostOversReachTarget() {
        for (int runs = 6; runs <= 8; runs++) {
            WicketScorer x = Scorers.played(10, 1, "@a66");
            x.declare();
            x.bowl(0);
            x.ball(2, runs - 3, false);
            x.ball(1, 1, false);
            // 63000 of 108000 resources make the target 8
            int r = runs;
            Check.due("the limit is answered with " + r + " runs", 5, () -> x.loseOvers(5));
            Check.due("target", 8, () -> x.needed(true));
            Check.due("the end with " + r + " runs", r < 8 ? 0 : 4, () -> x.innings(1, 7));
            Check.due("the result with " + r + " runs", r < 8 ? 0 : 2, x::result);
        }
    }

    /** Promise 9: "if the number is out of range": 1 to 19 */
    private static void loseOversRanges() {
        for (int overs : new int[] {Integer.MIN_VALUE, -1, 0, 20, 21, Integer.MAX_VALUE}) {
            WicketScorer x = new WicketScorer();
            Check.refuses("no loseOvers(" + overs + ") without a match", ARGUMENT, () -> x.loseOvers(overs));
            x.begin(20, 1, 0);
            Check.refuses("no loseOvers(" + overs + ")", ARGUMENT, () -> x.loseOvers(overs));
            x.begin(20, 2, 0);
            Check.refuses("no loseOvers(" + overs + ") of two innings", ARGUMENT, () -> x.loseOvers(overs));
            Check.due("no reason", 0, x::reason);
        }
        for (int overs = 1; overs <= 19; overs++) {
            WicketScorer x = Scorers.begun(20, 1, 0);
            int o = overs;
            Check.due("loseOvers(" + o + ")", 20 - o, () -> x.loseOvers(o));
            Check.due("limit", 20 - o, () -> x.now(7));
        }
    }

    /** Promise 9: "or the limit would not be greater than the number of overs that have begun, complete ones included" */
    private static void loseOversLimit() {
        for (int complete = 0; complete <= 3; complete++) {
            WicketScorer x = Scorers.begun(6, 1, 0);
            for (int over = 0; over < complete; over++) {
                Scorers.play(x, "@" + (char) ('a' + over) + "......");
            }
            int begun = complete;
            Check.reasoned("as many as " + begun + " overs", 8, x, () -> x.loseOvers(6 - begun));
            Check.due("the limit stays", 6, () -> x.now(7));
            Check.due("one more than " + begun + " overs", begun + 1, () -> x.loseOvers(5 - begun));
            Check.refuses("none more", IllegalStateException.class, () -> x.loseOvers(1));
        }
        WicketScorer y = Scorers.begun(1, 1, 0);
        Check.reasoned("the one over", 8, y, () -> y.loseOvers(1));
        WicketScorer z = Scorers.begun(5, 1, 0);
        Check.reasoned("more than there are", 8, z, () -> z.loseOvers(19));
    }

    /** Promise 9: "an over begins with its first ball, legal or not" */
    private static void overBeginsWithFirstBall() {
        WicketScorer x = Scorers.played(2, 1, "@a");
        Check.due("the bowler alone does not begin it", 1, () -> x.loseOvers(1));
        for (String ball : new String[] {".", "w", "n", "b1", "W"}) {
            WicketScorer y = Scorers.played(3, 1, "@a......@b");
            Check.due("a limit of 2 before " + ball, 2, () -> y.loseOvers(1));
            y.undo();
            Scorers.play(y, ball);
            Check.reasoned("a limit of 2 after " + ball, 8, y, () -> y.loseOvers(1));
        }
        WicketScorer z = Scorers.begun(2, 1, 0);
        z.bowl(0);
        z.wicket(3, 1, false, 0, false);
        Check.reasoned("a wicket on a wide begins it", 8, z, () -> z.loseOvers(1));
    }

    /** Promise 9: "or the match has 2 innings for each team" */
    private static void loseOversInMatchOfTwo() {
        WicketScorer x = Scorers.begun(20, 2, 0);
        for (int innings = 0; innings < 4; innings++) {
            Check.refuses("in the innings " + innings, IllegalStateException.class, () -> x.loseOvers(1));
            Check.due("reason", 8, x::reason);
            Check.due("the limit stays", 20, () -> x.now(7));
            x.declare();
        }
    }

    /** Promise 9: "if there is no match, or it is over (1)", which comes first. */
    private static void loseOversReasonsInOrder() {
        WicketScorer x = new WicketScorer();
        Check.reasoned("no match", 1, x, () -> x.loseOvers(1));
        WicketScorer y = Scorers.begun(1, 1, 0);
        y.declare();
        y.declare();
        Check.reasoned("over, and too many", 1, y, () -> y.loseOvers(19));
        WicketScorer z = Scorers.begun(20, 2, 0);
        for (int innings = 0; innings < 4; innings++) {
            z.declare();
        }
        Check.reasoned("over, with 2 innings each", 1, z, () -> z.loseOvers(1));
    }

    /** Promise 20: "if there is no match (1)"; "if the last innings has not begun" */
    private static void neededRefused() {
        for (boolean target : new boolean[] {true, false}) {
            WicketScorer x = new WicketScorer();
            Check.reasoned("no match", 1, x, () -> x.needed(target));
            for (int each = 1; each <= 2; each++) {
                WicketScorer y = Scorers.begun(5, each, 0);
                for (int innings = 0; innings < 2 * each - 1; innings++) {
                    Check.refuses("in the innings " + innings, NONE, () -> y.needed(target));
                    y.declare();
                }
                Check.due("in the last one", 1, () -> y.needed(target));
                Check.due("no reason", 0, y::reason);
            }
        }
    }

    /** Promise 20: "true for the target itself, false for the target minus the runs of the innings, but at least 0" */
    private static void neededAtLeastNone() {
        for (int runs = 3; runs <= 6; runs++) {
            WicketScorer x = Scorers.played(5, 1, "@a3");
            x.declare();
            x.bowl(0);
            x.ball(0, 1, false);
            x.ball(2, runs - 2, false);
            int r = runs;
            Check.due("the target", 4, () -> x.needed(true));
            Check.due("needed with " + r + " runs", r < 4 ? 1 : 0, () -> x.needed(false));
        }
    }

    /** The same after the match: the last innings has begun, unless it was not played. */
    private static void neededAfterTheMatch() {
        WicketScorer x = Scorers.played(5, 1, "@a6");
        x.declare();
        Scorers.play(x, "@a2");
        x.declare();
        Check.due("target after the match", 7, () -> x.needed(true));
        Check.due("still needed after the match", 5, () -> x.needed(false));
        WicketScorer y = Scorers.begun(5, 2, 0);
        y.declare();
        Scorers.play(y, "@a1");
        y.declare();
        y.declare();
        Check.due("the match is over", 2, y::result);
        Check.refuses("the last innings was not played", NONE, () -> y.needed(true));
        Check.due("no reason", 0, y::reason);
    }

    /** Promise 21: "Returns 0 if there is no match, or it is not over" */
    private static void resultBefore() {
        WicketScorer x = new WicketScorer();
        Check.due("no match", 0, x::result);
        x.begin(1, 1, 0);
        Check.due("at the beginning", 0, x::result);
        Scorers.play(x, "@a.....1@a.....");
        Check.due("before the last ball", 0, x::result);
        x.ball(0, 0, false);
        Check.due("after the last ball", 1, x::result);
        x.begin(1, 1, 0);
        Check.due("at the next beginning", 0, x::result);
    }

    /** Promise 21: "its team wins if it reaches the target, nobody if it has 1 run less, and otherwise the other team." */
    private static void resultByOneRun() {
        for (int first = 0; first <= 1; first++) {
            for (int each = 1; each <= 2; each++) {
                int[] results = {1 + first, 1 + first, 3, 2 - first, 2 - first};
                for (int runs = 0; runs < results.length; runs++) {
                    WicketScorer x = Scorers.begun(5, each, first);
                    if (each == 2) {
                        x.declare();
                        x.declare();
                    }
                    Scorers.play(x, "@a2");
                    x.declare();
                    x.bowl(0);
                    x.ball(0, runs, false);
                    if (runs < 3) {
                        x.declare();
                    }
                    Check.due(runs + " runs of 3, first " + first + ", each " + each, results[runs], x::result);
                }
            }
        }
    }
}
