/** "Retirements.", "Next batters." and promises 6 and 7: a test for each sentence that names an edge. */
final class BatterEdges {
    private static final Class<?> BOUNDS = IndexOutOfBoundsException.class;
    private static final Class<?> NONE = java.util.NoSuchElementException.class;

    private BatterEdges() {
    }

    static void run() {
        retireBetweenBalls();
        retireHurtOrOut();
        comesInAtThisEnd();
        noWicketFalls();
        retireAnswers();
        retireRefused();
        chosenFirst();
        lowestNotBatted();
        lowestHurt();
        determinedBefore();
        hurtGoOn();
        chooseInPlace();
        chooseAnswers();
        chooseForgotten();
        chooseUsedOnce();
        chooseRanges();
        chooseRefused();
        chooseReasonsInOrder();
    }

    /** Lets players retire out until only the two who bat are left, none of them 0. */
    private static void retireOutAll(WicketScorer x) {
        for (int left = 0; left < 9; left++) {
            x.retire(false, false);
        }
    }

    /** "A batter can retire between two balls": before the first one, in an over, and between two overs. */
    private static void retireBetweenBalls() {
        WicketScorer x = Scorers.begun(5, 1, 0);
        Check.due("before the first ball", 2, () -> x.retire(false, true));
        x.bowl(0);
        Check.due("with a bowler, before the first ball", 3, () -> x.retire(true, true));
        Scorers.play(x, "...");
        Check.due("in an over", 4, () -> x.retire(false, false));
        Check.due("the over goes on", 3, () -> x.now(5));
        Check.due("the bowler goes on", 0, () -> x.now(4));
        Scorers.play(x, "...");
        Check.due("between two overs", 5, () -> x.retire(true, false));
        Check.due("nobody bowls", -1, () -> x.now(4));
        Check.due("no ball was counted", 6, () -> x.innings(0, 2));
    }

    /** "hurt or out."; how the player stands then */
    private static void retireHurtOrOut() {
        for (boolean hurt : new boolean[] {true, false}) {
            for (boolean other : new boolean[] {true, false}) {
                WicketScorer x = Scorers.begun(5, 1, 0);
                x.retire(other, hurt);
                int who = other ? 1 : 0;
                Check.due("who retired", hurt ? 6 : 7, () -> x.batter(0, who, 4));
                Check.due("who did not", -1, () -> x.batter(0, 1 - who, 4));
                Check.due("no bowler got him", -1, () -> x.batter(0, who, 5));
            }
        }
    }

    /** "The next batter comes in at this end." */
    private static void comesInAtThisEnd() {
        WicketScorer x = Scorers.played(5, 1, "@a1");
        x.retire(false, true);
        Check.due("in place of the striker", 2, () -> x.now(2));
        Check.due("the other batter stays", 0, () -> x.now(3));
        x.retire(true, true);
        Check.due("the striker stays", 2, () -> x.now(2));
        Check.due("in place of the other", 3, () -> x.now(3));
    }

    /** "Somebody who retired out is out, but no wicket falls." */
    private static void noWicketFalls() {
        WicketScorer x = Scorers.begun(5, 1, 0);
        x.retire(false, false);
        Check.due("no wicket", 0, () -> x.innings(0, 1));
        Check.refuses("no fall", NONE, () -> x.fall(0, 0, 0));
        Check.due("the resources do not count him", 63000, () -> x.now(8));
        Check.due("loseOvers does not count him", 4, () -> x.loseOvers(1));
        Check.due("resources of 10 wickets", 51840, () -> x.now(8));
        Check.reasoned("he is out", 5, x, () -> x.choose(0));
        Check.due("he does not come back", 3, () -> x.now(6));
    }

    /** Promise 6: "Returns the player who comes in, or -1 if the innings ends." */
    private static void retireAnswers() {
        WicketScorer x = Scorers.begun(5, 1, 0);
        for (int next = 2; next <= 10; next++) {
            int n = next;
            Check.due("the next is " + n, n, () -> x.retire(n % 2 == 0, false));
            Check.due("he bats", -1, () -> x.batter(0, n, 4));
        }
        Check.due("nobody is next", -1, () -> x.now(6));
        Check.due("the innings goes on", 0, () -> x.now(0));
        Check.due("nobody comes in", -1, () -> x.retire(false, false));
        Check.due("the innings ends", 2, () -> x.innings(0, 7));
        Check.due("the next innings", 1, () -> x.now(0));
        Check.due("no partnership begins", 0, () -> x.partnership(0, 9, 7));
        Check.refuses("there is no other one", NONE, () -> x.partnership(0, 10, 0));
    }

    /** Promise 6: "if there is no match, or it is over (1)" */
    private static void retireRefused() {
        for (boolean hurt : new boolean[] {true, false}) {
            for (boolean other : new boolean[] {true, false}) {
                WicketScorer x = new WicketScorer();
                Check.reasoned("no match", 1, x, () -> x.retire(other, hurt));
                WicketScorer y = Scorers.begun(5, 1, 0);
                y.declare();
                y.declare();
                Check.reasoned("the match is over", 1, y, () -> y.retire(other, hurt));
            }
        }
    }

    /** "the next batter is determined: the one who was chosen" */
    private static void chosenFirst() {
        WicketScorer x = Scorers.begun(5, 1, 0);
        x.retire(false, true);
        x.choose(0);
        Check.due("a hurt one before those who have not batted", 0, () -> x.now(6));
        Check.due("he comes in", 0, () -> x.retire(true, false));
        x.choose(10);
        Check.due("the highest before the lowest", 10, () -> x.retire(true, false));
        x.choose(9);
        x.bowl(0);
        x.wicket(5, 0, true, 0, false);
        Check.due("after a wicket, too", 9, () -> x.now(3));
    }

    /** "otherwise the player with the lowest number who has not batted yet" */
    private static void lowestNotBatted() {
        WicketScorer x = Scorers.begun(5, 1, 0);
        Check.due("the first next one", 2, () -> x.now(6));
        x.choose(2);
        x.retire(false, true);
        Check.due("3 after 2, not 0 who is hurt", 3, () -> x.now(6));
        x.choose(4);
        x.retire(false, true);
        Check.due("3 after 4", 3, () -> x.now(6));
        x.retire(false, true);
        Check.due("5 after 3, for 4 has batted", 5, () -> x.now(6));
        for (int next = 5; next < 10; next++) {
            x.retire(true, false);
        }
        Check.due("the highest is the last", 10, () -> x.now(6));
    }

    /** "otherwise the one with the lowest number who retired hurt." */
    private static void lowestHurt() {
        WicketScorer x = Scorers.begun(5, 1, 0);
        x.retire(true, true);
        x.retire(false, true);
        for (int next = 4; next <= 10; next++) {
            x.retire(true, false);
        }
        Check.due("0 before 1", 0, () -> x.now(6));
        Check.due("0 comes back", 0, () -> x.retire(true, false));
        Check.due("then 1", 1, () -> x.now(6));
        Check.due("1 comes back", 1, () -> x.retire(true, false));
        Check.due("nobody then", -1, () -> x.now(6));
    }

    /** "Before a batter leaves, the next batter is determined": nobody follows upon himself. */
    private static void determinedBefore() {
        WicketScorer x = Scorers.begun(5, 1, 0);
        retireOutAll(x);
        Check.due("the last one retires hurt", -1, () -> x.retire(true, true));
        Check.due("the innings ends", 2, () -> x.innings(0, 7));
        WicketScorer y = Scorers.begun(5, 1, 0);
        y.retire(true, true);
        for (int next = 3; next <= 10; next++) {
            y.retire(true, false);
        }
        Check.due("1 comes back for 0, who is lower", 1, () -> y.retire(false, true));
        Check.due("and 0 comes back for him", 0, () -> y.retire(false, true));
    }

    /** "Batters who retired hurt go on with what they had." */
    private static void hurtGoOn() {
        WicketScorer x = Scorers.played(5, 1, "@a46..");
        x.retire(false, true);
        Check.row("hurt", new int[] {10, 4, 1, 1, 6, -1}, what -> x.batter(0, 0, what));
        x.choose(0);
        x.retire(false, false);
        Check.row("back", new int[] {10, 4, 1, 1, -1, -1}, what -> x.batter(0, 0, what));
        Scorers.play(x, "4W");
        Check.row("out", new int[] {14, 6, 2, 1, 0, 0}, what -> x.batter(0, 0, what));
    }

    /** Promise 7: "in place of an earlier choice" */
    private static void chooseInPlace() {
        WicketScorer x = Scorers.begun(5, 1, 0);
        x.choose(5);
        x.choose(8);
        Check.due("the later one", 8, () -> x.retire(false, true));
        Check.due("the earlier one is forgotten", 2, () -> x.retire(false, true));
    }

    /** Promise 7: "Returns the player who would have been the next batter, or -1 if nobody could come in." */
    private static void chooseAnswers() {
        WicketScorer x = Scorers.begun(5, 1, 0);
        Check.due("without a choice", 2, () -> x.choose(4));
        Check.due("with a choice", 4, () -> x.choose(4));
        Check.due("with the same choice", 4, () -> x.choose(2));
        Check.due("with the one who would come in anyway", 2, () -> x.choose(3));
        WicketScorer y = Scorers.begun(5, 1, 0);
        y.retire(true, true);
        for (int next = 3; next <= 10; next++) {
            y.retire(true, false);
        }
        Check.due("who retired hurt would have been", 1, () -> y.choose(1));
        y.retire(false, false);
        for (int player = 0; player <= 10; player++) {
            int p = player;
            Check.refuses("nobody could come in, nor " + p, IllegalStateException.class, () -> y.choose(p));
        }
    }

    /** Promise 7: "the choice is forgotten when the innings ends": however it ends, and with the match, too. */
    private static void chooseForgotten() {
        WicketScorer x = Scorers.begun(1, 1, 0);
        Scorers.play(x, "@a.....");
        x.choose(7);
        x.ball(0, 0, false);
        Check.due("with complete overs", 2, () -> x.now(6));
        x.choose(7);
        x.declare();
        Check.due("with the match", 2, () -> x.now(6));
        WicketScorer y = Scorers.begun(5, 1, 0);
        y.choose(7);
        y.declare();
        Check.due("with a declaration", 2, () -> y.now(6));
        y.bowl(0);
        y.choose(7);
        y.ball(0, 1, false);
        Check.due("with the target", 2, () -> y.now(6));
        y.undo();
        Check.due("not if that is undone", 7, () -> y.now(6));
    }

    /** Promise 7: "Chooses the next batter", who is one only. */
    private static void chooseUsedOnce() {
        WicketScorer x = Scorers.begun(5, 1, 0);
        x.choose(6);
        x.retire(false, true);
        Check.due("used by a retirement", 2, () -> x.now(6));
        x.choose(7);
        x.bowl(0);
        x.ball(0, 1, false);
        Check.due("not used by a ball", 7, () -> x.now(6));
        x.wicket(0, 0, false, 0, false);
        Check.due("used by a wicket", 2, () -> x.now(6));
    }

    /** Promise 7: "if there is no such player" */
    private static void chooseRanges() {
        for (int player : new int[] {Integer.MIN_VALUE, -1, 11, Integer.MAX_VALUE}) {
            WicketScorer x = new WicketScorer();
            Check.refuses("no choose(" + player + ") without a match", BOUNDS, () -> x.choose(player));
            x.begin(5, 1, 0);
            Check.refuses("no choose(" + player + ")", BOUNDS, () -> x.choose(player));
            Check.due("no reason", 0, x::reason);
        }
        for (int player = 2; player <= 10; player++) {
            WicketScorer x = Scorers.begun(5, 1, 0);
            int p = player;
            Check.due("choose(" + p + ")", 2, () -> x.choose(p));
            Check.due("next", p, () -> x.now(6));
        }
    }

    /** Promise 7: "or this player has batted and has not retired hurt (5)" */
    private static void chooseRefused() {
        for (int player = 0; player <= 1; player++) {
            WicketScorer x = Scorers.begun(5, 1, 0);
            int p = player;
            Check.reasoned("who is batting", 5, x, () -> x.choose(p));
        }
        for (String wicket : new String[] {"W", "C", "L", "R"}) {
            WicketScorer x = Scorers.played(5, 1, "@a" + wicket);
            Check.reasoned("who is out by " + wicket, 5, x, () -> x.choose(0));
        }
        WicketScorer y = Scorers.begun(5, 1, 0);
        y.retire(false, false);
        Check.reasoned("who retired out", 5, y, () -> y.choose(0));
        WicketScorer z = Scorers.begun(5, 1, 0);
        z.retire(false, true);
        Check.due("who retired hurt", 3, () -> z.choose(0));
        z.retire(false, true);
        Check.reasoned("who retired hurt and bats again", 5, z, () -> z.choose(0));
        Check.due("a new innings begins anew", 0, () -> {
            z.declare();
            return z.choose(2) - 2;
        });
    }

    /** Promise 7: "if there is no match, or it is over (1)", which comes first. */
    private static void chooseReasonsInOrder() {
        WicketScorer x = new WicketScorer();
        Check.reasoned("no match", 1, x, () -> x.choose(0));
        WicketScorer y = Scorers.begun(5, 1, 0);
        y.declare();
        y.declare();
        Check.reasoned("the match is over, who is batting", 1, y, () -> y.choose(0));
        WicketScorer z = Scorers.begun(5, 1, 0);
        z.declare();
        z.declare();
        Check.reasoned("the match is over, who has not batted", 1, z, () -> z.choose(2));
    }
}
