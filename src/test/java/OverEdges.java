/** "Overs." and promise 3: a test for each sentence that names an edge, with its words above it. */
final class OverEdges {
    private static final Class<?> BOUNDS = IndexOutOfBoundsException.class;

    private OverEdges() {
    }

    static void run() {
        overIsComplete();
        afterEverythingElse();
        alsoIfTheInningsEnds();
        wholeOver();
        notInSuccession();
        notAcrossInnings();
        quota();
        quotaAtTheBeginning();
        quotaOfTheSecond();
        maiden();
        noMaiden();
        bowlAnswers();
        bowlRanges();
        bowlReasonsInOrder();
        bowlRefused();
    }

    private static String overOf(int player) {
        return "@" + (char) ('a' + player) + "......";
    }

    /** "When 6 legal balls of an over were bowled, the over is complete ...: the batters change ends, and nobody bowls" */
    private static void overIsComplete() {
        WicketScorer x = Scorers.played(5, 1, "@a.....");
        Check.row("after 5 balls", new int[] {0, 0, 0, 1, 0, 5}, x::now);
        x.ball(1, 0, false);
        x.ball(2, 0, false);
        Check.row("a wide and a no-ball do not count", new int[] {0, 0, 0, 1, 0, 5}, x::now);
        x.ball(0, 0, false);
        Check.row("after 6 balls", new int[] {0, 0, 1, 0, -1, 0}, x::now);
    }

    /** "the over is complete, after everything else of its last ball" */
    private static void afterEverythingElse() {
        WicketScorer x = Scorers.played(5, 1, "@a.....3");
        Check.row("odd runs", new int[] {0, 0, 0, 1, -1, 0}, x::now);
        Check.due("its runs are the bowler's", 3, () -> x.bowler(0, 0, 1));
        Check.due("it is no maiden", 0, () -> x.bowler(0, 0, 3));
        WicketScorer y = Scorers.played(5, 1, "@a.....W");
        Check.row("a wicket", new int[] {0, 0, 1, 2, -1, 0}, y::now);
        Check.due("its wicket is the bowler's", 1, () -> y.bowler(0, 0, 2));
        Check.due("a maiden with a wicket", 1, () -> y.bowler(0, 0, 3));
    }

    /** "this is so also if the innings ends with that ball." */
    private static void alsoIfTheInningsEnds() {
        WicketScorer x = Scorers.played(1, 1, overOf(0) + overOf(4));
        Check.row("the last over", new int[] {1, 1, 1, 0, -1, 0}, x::now);
        Check.due("complete overs", 1, () -> x.bowler(1, 4, 6));
        WicketScorer y = Scorers.played(5, 1, "@a1");
        y.declare();
        Scorers.play(y, "@e.....2");
        Check.row("the target with the last ball", new int[] {1, 1, 1, 0, -1, 0}, y::now);
        Check.due("complete overs then", 1, () -> y.bowler(1, 4, 6));
        WicketScorer z = Scorers.begun(5, 1, 0);
        z.declare();
        Scorers.play(z, "@aWWWWWW@b..WWW");
        z.wicket(5, 0, true, 0, false);
        Check.due("nobody came in with the last ball", 2, () -> z.innings(1, 7));
        Check.row("who was the other is the striker", new int[] {1, 1, 7, 10, -1, 0}, z::now);
        Check.due("two complete overs", 1, () -> z.bowler(1, 1, 6));
    }

    /** "A bowler bowls a whole over" */
    private static void wholeOver() {
        WicketScorer x = Scorers.played(5, 1, "@c");
        for (int ball = 0; ball < 6; ball++) {
            Check.due("the bowler before ball " + ball, 2, () -> x.now(4));
            Check.refuses("no other one", IllegalStateException.class, () -> x.bowl(3));
            x.ball(0, 0, false);
        }
        Check.due("another one then", 0, () -> x.bowl(3));
    }

    /** "nobody bowls two overs of an innings in succession" */
    private static void notInSuccession() {
        WicketScorer x = Scorers.played(20, 1, overOf(0));
        Check.reasoned("the over after his first", 4, x, () -> x.bowl(0));
        Scorers.play(x, overOf(1));
        Check.due("one over later", 1, () -> x.bowl(0));
        Scorers.play(x, "......");
        Check.refuses("the over after his second", IllegalStateException.class, () -> x.bowl(0));
        Check.due("who bowled the over before that", 1, () -> x.bowl(1));
    }

    /** "of an innings": the last bowler of an innings can bowl the first over of the next but one. */
    private static void notAcrossInnings() {
        WicketScorer x = Scorers.played(1, 2, overOf(7));
        Check.due("the same number in the other team", 0, () -> x.bowl(7));
        Scorers.play(x, "......");
        Check.due("the same player in the third innings", 0, () -> x.bowl(7));
        Scorers.play(x, "......");
        Check.due("and in the last one", 0, () -> x.bowl(7));
    }

    /** "or more overs of an innings than a fifth of the limit ..., rounded up": from 3 overs on, 0 bowls every other one. */
    private static void quota() {
        for (int limit = 3; limit <= 20; limit++) {
            WicketScorer x = new WicketScorer();
            int most = x.begin(limit, 2, 0);
            for (int over = 0; over < most; over++) {
                int bowled = over;
                Check.due("over " + over + " of limit " + limit, bowled, () -> x.bowl(0));
                Scorers.play(x, "......" + overOf(1 + over % 4));
            }
            Check.due("bowled of limit " + limit, (limit + 4) / 5, () -> x.bowler(0, 0, 6));
            Check.reasoned("one over more of limit " + limit, 4, x, () -> x.bowl(0));
            Check.due("by another one", 0, () -> x.bowl(10));
        }
    }

    /** "the limit that the innings had at its beginning" */
    private static void quotaAtTheBeginning() {
        WicketScorer x = Scorers.begun(6, 1, 0);
        x.loseOvers(2);
        Scorers.play(x, overOf(0) + overOf(1));
        Check.due("two of four overs", 1, () -> x.bowl(0));
        Scorers.play(x, "......");
        Check.due("bowled", 2, () -> x.bowler(0, 0, 6));
        WicketScorer y = Scorers.begun(5, 1, 0);
        Scorers.play(y, overOf(0) + overOf(1));
        Check.reasoned("one of five overs", 4, y, () -> y.bowl(0));
    }

    /** The same, of the second innings: its limit is that of the first one at its end. */
    private static void quotaOfTheSecond() {
        WicketScorer x = Scorers.begun(6, 1, 0);
        x.loseOvers(1);
        x.declare();
        Scorers.play(x, overOf(0) + overOf(1));
        Check.reasoned("one of five overs", 4, x, () -> x.bowl(0));
        WicketScorer y = Scorers.begun(7, 1, 0);
        y.loseOvers(1);
        y.declare();
        y.loseOvers(2);
        Scorers.play(y, overOf(0) + overOf(1));
        Check.due("two of six overs, though two are lost", 1, () -> y.bowl(0));
    }

    /** "An over in which the bowler concedes no runs is a maiden." */
    private static void maiden() {
        for (String over : new String[] {"......", "b4l4b1l1b2l3", "WCLR..", ".b1...."}) {
            WicketScorer x = Scorers.played(5, 1, "@a" + over);
            Check.due("a maiden: " + over, 1, () -> x.bowler(0, 0, 3));
        }
        WicketScorer x = Scorers.played(20, 1, overOf(0) + overOf(1) + overOf(0) + "@b1.....");
        Scorers.play(x, overOf(0));
        Check.due("three maidens", 3, () -> x.bowler(0, 0, 3));
        Check.due("one of two", 1, () -> x.bowler(0, 1, 3));
    }

    /** The same: one run of any sort that is the bowler's is enough, and an over must be complete. */
    private static void noMaiden() {
        for (String over : new String[] {"1.....", ".....1", "w......", "n......", "...w4...", ".....6"}) {
            WicketScorer x = Scorers.played(5, 1, "@a" + over);
            Check.due("no maiden: " + over, 0, () -> x.bowler(0, 0, 3));
            Scorers.play(x, overOf(1));
            Check.due("the next over begins anew: " + over, 1, () -> x.bowler(0, 1, 3));
        }
        WicketScorer y = Scorers.played(5, 1, "@a.....");
        Check.due("no maiden of 5 balls", 0, () -> y.bowler(0, 0, 3));
        y.declare();
        Check.due("nor when the innings ends", 0, () -> y.bowler(0, 0, 3));
        Check.due("nor a complete over", 0, () -> y.bowler(0, 0, 6));
        WicketScorer z = Scorers.played(5, 1, "@a1");
        z.declare();
        Scorers.play(z, "@a......");
        Check.due("runs of an over that was not completed are forgotten", 1, () -> z.bowler(1, 0, 3));
    }

    /** "Returns the number of complete overs that this player has bowled in this innings." */
    private static void bowlAnswers() {
        WicketScorer x = Scorers.begun(20, 2, 0);
        for (int over = 0; over < 4; over++) {
            int o = over;
            Check.due("over " + o, o, () -> x.bowl(2));
            Scorers.play(x, "......" + overOf(3));
        }
        x.declare();
        Check.due("in this innings", 0, () -> x.bowl(2));
        Scorers.play(x, ".....");
        x.declare();
        Check.due("an over that was not completed does not count", 0, () -> x.bowl(2));
    }

    /** "if there is no such player" */
    private static void bowlRanges() {
        for (int player : new int[] {Integer.MIN_VALUE, -1, 11, Integer.MAX_VALUE}) {
            WicketScorer x = new WicketScorer();
            Check.refuses("no bowl(" + player + ") without a match", BOUNDS, () -> x.bowl(player));
            x.begin(5, 1, 0);
            Check.refuses("no bowl(" + player + ")", BOUNDS, () -> x.bowl(player));
            x.bowl(0);
            Check.refuses("no bowl(" + player + ") with a bowler", BOUNDS, () -> x.bowl(player));
            Check.due("no reason", 0, x::reason);
        }
        for (int player = 0; player <= 10; player++) {
            WicketScorer x = Scorers.begun(5, 1, 0);
            int p = player;
            Check.due("bowl(" + p + ")", 0, () -> x.bowl(p));
            Check.due("bowls", p, () -> x.now(4));
        }
    }

    /** "somebody bowls already (2), or this player bowled the over before or as many overs as possible (4)", in this order */
    private static void bowlReasonsInOrder() {
        WicketScorer x = Scorers.played(20, 1, overOf(0) + "@b");
        Check.reasoned("somebody bowls, and he bowled the over before", 2, x, () -> x.bowl(0));
        WicketScorer y = Scorers.played(5, 1, overOf(0) + "@b");
        Check.reasoned("somebody bowls, and he bowled all he can", 2, y, () -> y.bowl(0));
        WicketScorer z = Scorers.begun(5, 1, 0);
        Scorers.play(z, "@a");
        Check.reasoned("he bowls himself", 2, z, () -> z.bowl(0));
        WicketScorer w = Scorers.played(1, 1, "@a.....1@a2");
        Check.due("the match is over", 2, w::result);
        Check.reasoned("over, and somebody bowls", 1, w, () -> w.bowl(0));
    }

    /** "if there is no match, or it is over (1)" */
    private static void bowlRefused() {
        WicketScorer x = new WicketScorer();
        Check.reasoned("no match", 1, x, () -> x.bowl(0));
        WicketScorer y = Scorers.played(1, 1, overOf(0) + overOf(0));
        Check.reasoned("over, and nobody bowls", 1, y, () -> y.bowl(1));
    }
}
