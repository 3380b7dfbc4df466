/** "Partnerships." and promises 14 to 19: a test for each sentence that names an edge, with its words above it. */
final class CardEdges {
    private static final Class<?> ARGUMENT = IllegalArgumentException.class;
    private static final Class<?> BOUNDS = IndexOutOfBoundsException.class;
    private static final Class<?> NONE = java.util.NoSuchElementException.class;
    private static final int[] FAR = {Integer.MIN_VALUE, Integer.MAX_VALUE};

    private CardEdges() {
    }

    static void run() {
        nowRanges();
        nowOfThePresent();
        nowWhoLeft();
        nowBowlerStays();
        nowBowlerDoesNotStay();
        nowNextAfterTheMatch();
        noInnings();
        inningsRanges();
        inningsEnds();
        greatestEnd();
        batterRanges();
        batterStands();
        bowlerRanges();
        bowlerOfOtherTeam();
        partnershipRanges();
        partnershipBegins();
        partnershipIsOver();
        partnershipBalls();
        partnershipOfTheWicket();
        partnershipRuns();
        fallRanges();
        fallCounts();
    }

    /** Promise 14: "if what is out of range"; "if there is no match (1)", which is checked after it */
    private static void nowRanges() {
        for (int what : new int[] {FAR[0], -1, 9, FAR[1]}) {
            WicketScorer x = new WicketScorer();
            Check.refuses("no now(" + what + ") without a match", ARGUMENT, () -> x.now(what));
            x.begin(5, 1, 0);
            Check.refuses("no now(" + what + ")", ARGUMENT, () -> x.now(what));
            Check.due("no reason", 0, x::reason);
        }
        WicketScorer y = Scorers.played(5, 1, "@c1.W");
        Check.row("all numbers", new int[] {0, 0, 2, 0, 2, 3, 3, 5, 63000}, y::now);
    }

    /** Promise 14: "about the present innings, or the last one if the match is over." */
    private static void nowOfThePresent() {
        WicketScorer x = Scorers.played(5, 1, "@c1.W");
        x.declare();
        Check.row("the second innings", new int[] {1, 1, 0, 1, -1, 0, 2, 5, 63000}, x::now);
        Scorers.play(x, "@d1C");
        x.declare();
        Check.row("the match is over", new int[] {1, 1, 2, 0, 3, 2, 3, 5, 63000}, x::now);
    }

    /** Promise 14: "where somebody who left and in whose place nobody came in counts, too" */
    private static void nowWhoLeft() {
        for (boolean other : new boolean[] {false, true}) {
            WicketScorer x = Scorers.begun(5, 1, 0);
            x.declare();
            Scorers.play(x, "@aWWWWWW@bWWW");
            int striker = x.now(2);
            int second = x.now(3);
            x.retire(other, false);
            Check.due("the striker", striker, () -> x.now(2));
            Check.due("the other batter", second, () -> x.now(3));
            Check.due("who left", 7, () -> x.batter(1, other ? second : striker, 4));
        }
        WicketScorer y = Scorers.begun(5, 1, 0);
        y.declare();
        Scorers.play(y, "@aWWWWWW@bWWW");
        int striker = y.now(2);
        int second = y.now(3);
        y.wicket(5, 0, false, 0, true);
        Check.due("who crossed is the other batter", striker, () -> y.now(3));
        Check.due("and the other one the striker", second, () -> y.now(2));
    }

    /** Promise 14: "the bowler of an over that has begun and was not completed stays when the match ends" */
    private static void nowBowlerStays() {
        for (String ball : new String[] {".", "w", "n", ".....", "b1", "W"}) {
            WicketScorer x = Scorers.played(5, 1, "@a66");
            x.declare();
            Scorers.play(x, "@k" + ball);
            x.declare();
            Check.due("the bowler stays after " + ball, 10, () -> x.now(4));
        }
        WicketScorer y = Scorers.played(5, 1, "@a1");
        y.declare();
        Scorers.play(y, "@k.2");
        Check.due("he stays with the target reached", 10, () -> y.now(4));
        Check.due("and the legal balls", 2, () -> y.now(5));
        WicketScorer z = Scorers.begun(5, 2, 0);
        z.declare();
        Scorers.play(z, "@a1");
        z.declare();
        Scorers.play(z, "@e.");
        z.declare();
        Check.due("he stays if the last innings is not played", 4, () -> z.now(4));
    }

    /** The same: "-1 if nobody bowls": with a complete over, and where no over has begun. */
    private static void nowBowlerDoesNotStay() {
        WicketScorer x = Scorers.played(1, 1, "@a......@k......");
        Check.due("the match is over", 3, x::result);
        Check.due("a complete over", -1, () -> x.now(4));
        WicketScorer y = Scorers.begun(5, 1, 0);
        y.declare();
        y.declare();
        Check.due("nobody was chosen", -1, () -> y.now(4));
        WicketScorer z = Scorers.begun(5, 1, 0);
        Scorers.play(z, "@a1");
        z.declare();
        Check.due("it does not stay for the next innings", -1, () -> z.now(4));
        z.bowl(9);
        Check.due("chosen", 9, () -> z.now(4));
        z.declare();
        Check.due("chosen for an over that has not begun", -1, () -> z.now(4));
        z.undo();
        Check.due("chosen, once the end is undone", 9, () -> z.now(4));
    }

    /** Promise 14: "6 for the next batter of this innings, also if the match is over, -1 if nobody can come in" */
    private static void nowNextAfterTheMatch() {
        WicketScorer x = Scorers.begun(5, 1, 0);
        x.declare();
        x.retire(false, true);
        x.declare();
        Check.due("the next one", 3, () -> x.now(6));
        WicketScorer y = Scorers.begun(5, 1, 0);
        y.declare();
        for (int left = 0; left < 9; left++) {
            y.retire(false, false);
        }
        Check.due("nobody can come in", -1, () -> y.now(6));
        y.retire(false, false);
        Check.due("nor after the match", -1, () -> y.now(6));
        y.undo();
        y.retire(false, true);
        Check.due("who retired hurt at last would be next", 10, () -> y.now(6));
    }

    /** "if no such innings has begun": before a match, and the one that is next. */
    private static void noInnings() {
        WicketScorer x = new WicketScorer();
        noInningsOf(x, 0);
        x.begin(5, 2, 0);
        for (int begun = 1; begun <= 4; begun++) {
            noInningsOf(x, begun);
            int last = begun - 1;
            Check.due("the innings " + last + " has begun", 0, () -> x.innings(last, 0));
            x.declare();
        }
        noInningsOf(x, 4);
        x.begin(5, 1, 0);
        x.declare();
        noInningsOf(x, 2);
        x.declare();
        noInningsOf(x, 2);
    }

    private static void noInningsOf(WicketScorer x, int begun) {
        for (int innings : new int[] {FAR[0], -1, begun, begun + 1, 4, FAR[1]}) {
            Check.refuses("no innings " + innings, BOUNDS, () -> x.innings(innings, 99));
            Check.refuses("no batter of innings " + innings, BOUNDS, () -> x.batter(innings, 99, 99));
            Check.refuses("no bowler of innings " + innings, BOUNDS, () -> x.bowler(innings, 99, 99));
            Check.refuses("no partnership of innings " + innings, BOUNDS, () -> x.partnership(innings, 99, 99));
            Check.refuses("no wicket of innings " + innings, BOUNDS, () -> x.fall(innings, 99, 99));
            Check.refuses("no run rate of innings " + innings, BOUNDS, () -> x.runRate(innings));
            Check.refuses("no strike rate of innings " + innings, BOUNDS, () -> x.strikeRate(innings, 99));
            Check.refuses("no row of innings " + innings, BOUNDS, () -> x.storeOvers(0, innings, true));
        }
    }

    /** Promise 15: "if what is out of range": 0 to 7 */
    private static void inningsRanges() {
        WicketScorer x = Scorers.played(5, 1, "@d6w1n2b3l4W");
        Check.row("all numbers", new int[] {18, 1, 4, 2, 1, 3, 4, 0}, what -> x.innings(0, what));
        for (int what : new int[] {FAR[0], -1, 8, FAR[1]}) {
            Check.refuses("no innings(0, " + what + ")", ARGUMENT, () -> x.innings(0, what));
        }
    }

    /** Promise 15: "7 for 0 if it is not over, 1 if its overs are complete, 2 if nobody could come in, 3 ..., 4 ..." */
    private static void inningsEnds() {
        WicketScorer x = Scorers.begun(1, 2, 0);
        Check.due("not over", 0, () -> x.innings(0, 7));
        Scorers.play(x, "@a.....4");
        Check.due("overs complete", 1, () -> x.innings(0, 7));
        for (int left = 0; left < 10; left++) {
            x.retire(true, false);
        }
        Check.due("nobody could come in", 2, () -> x.innings(1, 7));
        x.declare();
        Check.due("declared", 3, () -> x.innings(2, 7));
        Scorers.play(x, "@a4n");
        Check.due("the target was reached", 4, () -> x.innings(3, 7));
        Check.due("the first one stays as it ended", 1, () -> x.innings(0, 7));
    }

    /** Promise 15: "of several numbers, the greatest" */
    private static void greatestEnd() {
        WicketScorer x = Scorers.begun(2, 1, 0);
        Scorers.play(x, "@aWWWWWW@b..WWW");
        x.wicket(0, 0, false, 0, false);
        Check.due("1 and 2", 2, () -> x.innings(0, 7));
        WicketScorer y = Scorers.played(1, 1, "@a.....1@a.....2");
        Check.due("1 and 4", 4, () -> y.innings(1, 7));
        WicketScorer z = Scorers.begun(2, 1, 0);
        z.declare();
        Scorers.play(z, "@aWWWWWW@b.WWW");
        z.wicket(5, 0, false, 1, false);
        Check.due("2 and 4", 4, () -> z.innings(1, 7));
        WicketScorer w = Scorers.begun(2, 1, 0);
        w.declare();
        Scorers.play(w, "@aWWWWWW@b..WWW");
        w.wicket(5, 0, true, 3, true);
        Check.due("1, 2 and 4", 4, () -> w.innings(1, 7));
        Check.due("the wickets", 10, () -> w.innings(1, 1));
        Check.due("won", 2, w::result);
    }

    /** Promise 16: "or there is no such player", before "if what is out of range": 0 to 5 */
    private static void batterRanges() {
        WicketScorer x = Scorers.played(5, 1, "@d46W");
        Check.row("all numbers", new int[] {10, 3, 1, 1, 0, 3}, what -> x.batter(0, 0, what));
        Check.row("who has not batted", new int[] {0, 0, 0, 0, -2, -1}, what -> x.batter(0, 10, what));
        for (int wrong : new int[] {FAR[0], -1, FAR[1]}) {
            Check.refuses("no batter(0, " + wrong + ", " + wrong + ")", BOUNDS, () -> x.batter(0, wrong, wrong));
            Check.refuses("no batter(0, 0, " + wrong + ")", ARGUMENT, () -> x.batter(0, 0, wrong));
        }
        Check.refuses("no batter(0, 11, 6)", BOUNDS, () -> x.batter(0, 11, 6));
        Check.refuses("no batter(0, 10, 6)", ARGUMENT, () -> x.batter(0, 10, 6));
    }

    /** Promise 16: "-2 has not batted, -1 is batting, or was when the innings ended, 0 to 5 is out in this way, 6 ..., 7 ..." */
    private static void batterStands() {
        WicketScorer x = Scorers.begun(20, 1, 0);
        x.bowl(0);
        for (int way = 0; way <= 5; way++) {
            x.wicket(way, 0, false, 0, false);
        }
        x.retire(true, true);
        x.retire(true, false);
        x.declare();
        // The over's end brought player 1 to the strike; 7 and 8 retired at the other end.
        int[] due = {0, -1, 1, 2, 3, 4, 5, 6, 7, -1, -2};
        for (int player = 0; player < due.length; player++) {
            int p = player;
            Check.due("how player " + p + " stands", due[p], () -> x.batter(0, p, 4));
        }
    }

    /** Promise 17: "or there is no such player", before "if what is out of range": 0 to 6 */
    private static void bowlerRanges() {
        WicketScorer x = Scorers.played(5, 1, "@k......@a6w1n2b3l4W");
        Check.row("player 10", new int[] {6, 0, 0, 1, 0, 0, 1}, what -> x.bowler(0, 10, what));
        Check.row("player 0", new int[] {4, 11, 1, 0, 1, 1, 0}, what -> x.bowler(0, 0, what));
        for (int wrong : new int[] {FAR[0], -1, FAR[1]}) {
            Check.refuses("no bowler(0, " + wrong + ", " + wrong + ")", BOUNDS, () -> x.bowler(0, wrong, wrong));
            Check.refuses("no bowler(0, 0, " + wrong + ")", ARGUMENT, () -> x.bowler(0, 0, wrong));
        }
        Check.refuses("no bowler(0, 11, 7)", BOUNDS, () -> x.bowler(0, 11, 7));
        Check.refuses("no bowler(0, 10, 7)", ARGUMENT, () -> x.bowler(0, 10, 7));
    }

    /** Promise 17: "the player of the bowling team": the same number in the next innings has a card of his own. */
    private static void bowlerOfOtherTeam() {
        WicketScorer x = Scorers.played(5, 1, "@a12");
        x.declare();
        Check.row("nothing yet", new int[7], what -> x.bowler(1, 0, what));
        Scorers.play(x, "@aw");
        Check.row("one wide", new int[] {0, 1, 0, 0, 1, 0, 0}, what -> x.bowler(1, 0, what));
        Check.row("in the first innings", new int[] {2, 3, 0, 0, 0, 0, 0}, what -> x.bowler(0, 0, what));
    }

    /** Promise 18: "if there is no such partnership", before "if what is out of range": 0 to 7 */
    private static void partnershipRanges() {
        WicketScorer x = Scorers.played(5, 1, "@aW");
        for (int wrong : new int[] {FAR[0], -1, FAR[1]}) {
            Check.refuses("no partnership(0, " + wrong + ", " + wrong + ")", NONE,
                    () -> x.partnership(0, wrong, wrong));
            Check.refuses("no partnership(0, 1, " + wrong + ")", ARGUMENT, () -> x.partnership(0, 1, wrong));
        }
        Check.refuses("no partnership(0, 2, 8)", NONE, () -> x.partnership(0, 2, 8));
        Check.refuses("no partnership(0, 1, 8)", ARGUMENT, () -> x.partnership(0, 1, 8));
        Check.row("the second one", new int[] {0, 0, 1, 2, 0, 0, 0, 1}, what -> x.partnership(0, 1, what));
    }

    /** "A partnership begins with an innings and whenever a batter comes in" */
    private static void partnershipBegins() {
        WicketScorer x = Scorers.begun(5, 1, 0);
        Check.row("with the innings", new int[] {0, 0, 0, 1, 0, 0, 0, 1}, what -> x.partnership(0, 0, what));
        Check.refuses("only one", NONE, () -> x.partnership(0, 1, 0));
        x.retire(false, true);
        Check.row("with a retirement", new int[] {0, 0, 1, 2, 0, 0, 0, 1}, what -> x.partnership(0, 1, what));
        x.bowl(0);
        x.wicket(5, 0, true, 0, false);
        Check.row("with a wicket", new int[] {0, 0, 2, 3, 0, 0, 0, 1}, what -> x.partnership(0, 2, what));
        x.choose(0);
        x.retire(true, false);
        Check.row("who comes back has the lower number", new int[] {0, 0, 0, 2, 0, 0, 0, 1},
                what -> x.partnership(0, 3, what));
    }

    /** "it is over when one of its batters leaves, also if nobody comes in"; "or was not when the innings ended" */
    private static void partnershipIsOver() {
        WicketScorer x = Scorers.begun(5, 2, 0);
        x.retire(true, true);
        Check.due("with a retirement", 0, () -> x.partnership(0, 0, 7));
        x.declare();
        Check.due("not with the innings", 1, () -> x.partnership(0, 1, 7));
        for (int left = 0; left < 10; left++) {
            x.retire(false, false);
        }
        Check.due("also if nobody comes in", 0, () -> x.partnership(1, 9, 7));
        Check.refuses("none begins then", NONE, () -> x.partnership(1, 10, 7));
        Scorers.play(x, "@aWWWWWW@bWWWW");
        Check.due("nor with a wicket", 0, () -> x.partnership(2, 9, 7));
        Check.refuses("nor begins", NONE, () -> x.partnership(2, 10, 7));
        WicketScorer y = Scorers.played(1, 1, "@a......@a1");
        Check.due("not with complete overs", 1, () -> y.partnership(0, 0, 7));
        Check.due("not with the match", 1, () -> y.partnership(1, 0, 7));
    }

    /** "Its runs are all runs of the team while it lasts, its balls the legal balls." */
    private static void partnershipBalls() {
        WicketScorer x = Scorers.played(5, 1, "@a1w2n3b4l1.");
        Check.row("of all sorts", new int[] {13, 4, 0, 1, 1, 3, 9, 1}, what -> x.partnership(0, 0, what));
    }

    /** "The runs and the ball with which a batter is out belong to the partnership that ends." */
    private static void partnershipOfTheWicket() {
        WicketScorer x = Scorers.played(5, 1, "@a");
        x.wicket(5, 0, true, 3, false);
        Check.row("a run-out on a hit", new int[] {3, 1, 0, 1, 3, 0, 0, 0}, what -> x.partnership(0, 0, what));
        Check.row("the next one", new int[] {0, 0, 0, 2, 0, 0, 0, 1}, what -> x.partnership(0, 1, what));
        x.wicket(5, 2, false, 2, false);
        Check.row("a run-out on a no-ball", new int[] {3, 0, 0, 2, 0, 2, 1, 0}, what -> x.partnership(0, 1, what));
        x.wicket(3, 1, false, 0, false);
        Check.row("stumped on a wide", new int[] {1, 0, 0, 3, 0, 0, 1, 0}, what -> x.partnership(0, 2, what));
        Check.row("the last one", new int[] {0, 0, 0, 4, 0, 0, 0, 1}, what -> x.partnership(0, 3, what));
    }

    /** Promise 18: "4 for the runs of the former for it, 5 for those of the latter, 6 for its extras" */
    private static void partnershipRuns() {
        WicketScorer x = Scorers.played(5, 1, "@a4136");
        Check.row("both batters", new int[] {14, 4, 0, 1, 11, 3, 0, 1}, what -> x.partnership(0, 0, what));
        x.retire(true, true);
        Scorers.play(x, "12");
        Check.row("for it alone", new int[] {3, 2, 0, 2, 1, 2, 0, 1}, what -> x.partnership(0, 1, what));
    }

    /** Promise 19: "if there is no such wicket", before "if what is out of range": 0 to 2 */
    private static void fallRanges() {
        WicketScorer x = Scorers.played(5, 1, "@a2W");
        for (int wrong : new int[] {FAR[0], -1, FAR[1]}) {
            Check.refuses("no fall(0, " + wrong + ", " + wrong + ")", NONE, () -> x.fall(0, wrong, wrong));
            Check.refuses("no fall(0, 0, " + wrong + ")", ARGUMENT, () -> x.fall(0, 0, wrong));
        }
        Check.refuses("no fall(0, 1, 3)", NONE, () -> x.fall(0, 1, 3));
        Check.refuses("no fall(0, 0, 3)", ARGUMENT, () -> x.fall(0, 0, 3));
        WicketScorer y = Scorers.begun(5, 1, 0);
        Check.refuses("no wicket at all", NONE, () -> y.fall(0, 0, 0));
        y.retire(false, false);
        Check.refuses("who retired out is no wicket", NONE, () -> y.fall(0, 0, 0));
        Scorers.play(y, "@aWWWWWW@bWW");
        y.wicket(0, 0, false, 0, false);
        Check.due("the innings is over", 2, () -> y.innings(0, 7));
        Check.refuses("no tenth one", NONE, () -> y.fall(0, 9, 0));
    }

    /** Promise 19: "1 for the runs of the team, 2 for the legal balls, both with those of the ball of the wicket" */
    private static void fallCounts() {
        WicketScorer x = Scorers.played(5, 1, "@a4w2");
        x.wicket(5, 0, true, 1, false);
        x.wicket(5, 1, false, 2, false);
        x.wicket(0, 0, false, 0, false);
        Check.row("on a hit", new int[] {1, 8, 2}, what -> x.fall(0, 0, what));
        Check.row("on a wide", new int[] {2, 11, 2}, what -> x.fall(0, 1, what));
        Check.row("bowled", new int[] {3, 11, 3}, what -> x.fall(0, 2, what));
    }
}
