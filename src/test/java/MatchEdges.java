/** "Match." and promises 1, 2 and 8: a test for each sentence that names an edge, with its words above it. */
final class MatchEdges {
    private static final Class<?> ARGUMENT = IllegalArgumentException.class;
    private static final Class<?> BOUNDS = IndexOutOfBoundsException.class;
    private static final Class<?> NONE = java.util.NoSuchElementException.class;

    private MatchEdges() {
    }

    static void run() {
        elevenPlayers();
        oneOrTwoInningsEach();
        teamsAlternate();
        inningsBegins();
        sixLegalBalls();
        oversComplete();
        nobodyCanComeIn();
        declared();
        targetReached();
        noTargetBeforeTheLast();
        lookedAtLast();
        targetNotPositive();
        targetNotPositiveAtEveryEnd();
        newScorer();
        beginRanges();
        beginQuota();
        beginStartsAnew();
        beginForgetsChoices();
        beginKeepsBuffer();
        beginKeepsAnswers();
        beginKeepsRows();
        beginKeepsSnapshot();
        declareAnswers();
        declareInAnyState();
    }

    /** "Two teams, 0 and 1, have 11 players each, numbered from 0 to 10 in each team." */
    private static void elevenPlayers() {
        for (int player : new int[] {0, 10}) {
            WicketScorer x = Scorers.played(5, 1, "@b1");
            Check.due("batter " + player, player == 0 ? 1 : 0, () -> x.batter(0, player, 0));
            Check.due("bowler " + player, 0, () -> x.bowler(0, player, 0));
            x.begin(5, 1, 0);
            Check.due("bowl(" + player + ")", 0, () -> x.bowl(player));
        }
        WicketScorer x = Scorers.begun(5, 1, 0);
        Check.due("choose(2)", 2, () -> x.choose(2));
        Check.due("choose(10)", 2, () -> x.choose(10));
        for (int player : new int[] {-1, 11, Integer.MIN_VALUE, Integer.MAX_VALUE}) {
            Check.refuses("no batter " + player, BOUNDS, () -> x.batter(0, player, 0));
            Check.refuses("no bowler " + player, BOUNDS, () -> x.bowler(0, player, 0));
            Check.refuses("no strike rate of " + player, BOUNDS, () -> x.strikeRate(0, player));
            Check.refuses("no bowl(" + player + ")", BOUNDS, () -> x.bowl(player));
            Check.refuses("no choose(" + player + ")", BOUNDS, () -> x.choose(player));
        }
    }

    /** "A match has 1 or 2 innings for each team" */
    private static void oneOrTwoInningsEach() {
        for (int each = 1; each <= 2; each++) {
            WicketScorer x = Scorers.begun(5, each, 0);
            for (int ended = 0; ended < 2 * each; ended++) {
                Check.due("not over with " + ended + " innings of " + each + " each", 0, x::result);
                x.declare();
            }
            Check.due("over with all innings of " + each + " each", 3, x::result);
            Check.due("the last one", 2 * each - 1, () -> x.now(0));
        }
    }

    /** "the innings are numbered from 0 in the order in which they are played, the teams bat alternately" */
    private static void teamsAlternate() {
        for (int first = 0; first <= 1; first++) {
            WicketScorer x = Scorers.begun(5, 2, first);
            int[] teams = {first, 1 - first, first, 1 - first};
            for (int innings = 0; innings < 4; innings++) {
                Check.due("number of the innings", innings, () -> x.now(0));
                Check.due("team of the innings " + innings, teams[innings], () -> x.now(1));
                x.declare();
            }
        }
    }

    /** "At the beginning of an innings, player 0 of the batting team is the striker, player 1 the other batter, and nobody bowls." */
    private static void inningsBegins() {
        WicketScorer x = Scorers.begun(5, 2, 0);
        for (int innings = 0; innings < 4; innings++) {
            Check.row("now in the innings " + innings, new int[] {innings, innings % 2, 0, 1, -1, 0, 2, 5, 0}, x::now);
            Check.reasoned("nobody bowls in the innings " + innings, 3, x, () -> x.ball(0, 0, false));
            Scorers.play(x, "@c..CW1");
            Check.reasoned("somebody bowls", 2, x, () -> x.bowl(1));
            x.declare();
        }
    }

    /** "An over has 6 legal balls." */
    private static void sixLegalBalls() {
        WicketScorer x = Scorers.played(5, 1, "@aw.n.w4.n6.nw.");
        Check.due("5 legal balls", 5, () -> x.now(5));
        Check.due("the bowler goes on after 5", 0, () -> x.now(4));
        Scorers.play(x, "wn");
        Check.due("still 5 legal balls", 5, () -> x.now(5));
        Check.due("no over is complete", 0, () -> x.bowler(0, 0, 6));
        x.ball(3, 4, false);
        Check.due("nobody bowls after 6", -1, () -> x.now(4));
        Check.due("no ball of the next over", 0, () -> x.now(5));
        Check.due("an over is complete", 1, () -> x.bowler(0, 0, 6));
    }

    /** "Each innings has a limit of overs. It ends when as many overs are complete" */
    private static void oversComplete() {
        for (int limit : new int[] {1, 2, 20}) {
            WicketScorer x = Scorers.begun(limit, 1, 0);
            for (int over = 1; over < limit; over++) {
                Scorers.play(x, "@" + (char) ('a' + over % 5) + "......");
            }
            Check.due("not over before the last over of " + limit, 0, () -> x.innings(0, 7));
            Scorers.play(x, "@f.....w");
            Check.due("not over before the last ball of " + limit, 0, () -> x.innings(0, 7));
            x.ball(0, 0, false);
            Check.due("over with the last ball of " + limit, 1, () -> x.innings(0, 7));
            Check.due("legal balls of " + limit, 6 * limit, () -> x.innings(0, 2));
            Check.due("the next innings after " + limit, 1, () -> x.now(0));
        }
    }

    /** "when a batter leaves and nobody can come in" */
    private static void nobodyCanComeIn() {
        for (int way = 0; way < 3; way++) {
            WicketScorer x = Scorers.played(5, 1, "@aWLCRWL@bWLC");
            Check.due("nine are out", 9, () -> x.innings(0, 1));
            Check.due("the innings goes on", 0, () -> x.innings(0, 7));
            if (way == 0) {
                Check.due("the tenth wicket", 10, () -> x.wicket(0, 0, false, 0, false));
            } else {
                boolean hurt = way == 1;
                Check.due("the last one retires", -1, () -> x.retire(true, hurt));
            }
            Check.due("nobody could come in", 2, () -> x.innings(0, 7));
            Check.due("the next innings", 1, () -> x.now(0));
        }
        WicketScorer y = Scorers.begun(5, 1, 0);
        y.retire(false, true);
        Scorers.play(y, "@aWLCRWL@bWL");
        Check.due("who retired hurt can come in", 9, () -> y.wicket(0, 0, false, 0, false));
        Check.due("so that the innings goes on", 0, () -> y.innings(0, 7));
    }

    /** "when it is declared" */
    private static void declared() {
        WicketScorer x = Scorers.begun(5, 1, 0);
        x.declare();
        Check.due("declared before a ball", 3, () -> x.innings(0, 7));
        Scorers.play(x, "@a.....");
        Check.due("not over", 0, () -> x.innings(1, 7));
        x.declare();
        Check.due("the last one is declared", 3, () -> x.innings(1, 7));
        Check.due("over", 3, x::result);
    }

    /** "or, if it is the last one, when its team has reached the target" */
    private static void targetReached() {
        int[][] runs = {{0, 0}, {1, 4}, {2, 4}};
        for (int[] r : runs) {
            WicketScorer x = Scorers.played(5, 1, "@a63");
            x.declare();
            Scorers.play(x, "@a45");
            Check.due("one run less than the target", 0, () -> x.innings(1, 7));
            Check.due("not over", 0, x::result);
            x.ball(0, r[0], false);
            Check.due("with " + r[0] + " more", r[1], () -> x.innings(1, 7));
            Check.due("result with " + r[0] + " more", r[0] > 0 ? 2 : 0, x::result);
        }
    }

    /** The same: the innings before the last one have no target. */
    private static void noTargetBeforeTheLast() {
        WicketScorer x = Scorers.played(5, 2, "@a1");
        x.declare();
        Scorers.play(x, "@a66");
        Check.due("the second of four goes on", 0, () -> x.innings(1, 7));
        x.declare();
        Scorers.play(x, "@a6666");
        Check.due("the third of four goes on", 0, () -> x.innings(2, 7));
        x.declare();
        Scorers.play(x, "@a66");
        Check.due("the last one has 1 run less than 14", 0, () -> x.innings(3, 7));
        x.ball(0, 1, false);
        Check.due("and with 13 runs, too", 0, () -> x.innings(3, 7));
        x.ball(2, 0, false);
        Check.due("it has reached 14", 4, () -> x.innings(3, 7));
    }

    /** "all this is looked at after everything else that a ball or a retirement brings, lost overs included." */
    private static void lookedAtLast() {
        WicketScorer x = Scorers.played(2, 1, "@a2");
        x.declare();
        Scorers.play(x, "@a2....");
        Check.due("the wicket counts with the last run", 1, () -> x.wicket(5, 0, false, 1, false));
        Check.due("the target is reached", 4, () -> x.innings(1, 7));
        Check.due("who is out", 0, () -> x.fall(1, 0, 0));
        Check.due("runs at the wicket", 3, () -> x.fall(1, 0, 1));
        Check.due("the next batter came in", -1, () -> x.batter(1, 2, 4));
        Check.due("a partnership began", 1, () -> x.partnership(1, 1, 7));
        Check.due("the over is complete", 1, () -> x.bowler(1, 0, 6));
        Check.due("the ends were changed: the striker", 2, () -> x.now(2));
        Check.due("the ends were changed: the other", 1, () -> x.now(3));
        Check.due("nobody bowls", -1, () -> x.now(4));
    }

    /** "The match is over when there is none, or if the target of the last innings would not be positive" */
    private static void targetNotPositive() {
        for (int lead = -1; lead <= 2; lead++) {
            for (int first = 0; first <= 1; first++) {
                WicketScorer x = Scorers.begun(5, 2, first);
                Scorers.play(x, "@a1");
                x.declare();
                Scorers.play(x, "@a" + (lead + 3));
                x.declare();
                Scorers.play(x, "@a2");
                x.declare();
                int target = 1 - lead;
                String name = "a target of " + target + ", first " + first;
                Check.due(name + ": its team has won", target > 0 ? 0 : 2 - first, x::result);
                Check.due(name + ": innings", target > 0 ? 3 : 2, () -> x.now(0));
                Check.due(name + ": needed", target > 0 ? (Object) target : "NoSuchElementException",
                        () -> x.needed(true));
                Check.due(name + ": the last innings", target > 0 ? (Object) 0 : "IndexOutOfBoundsException",
                        () -> x.innings(3, 0));
            }
        }
    }

    /** "then the last innings is not played": however the innings before it ends. */
    private static void targetNotPositiveAtEveryEnd() {
        for (int end = 1; end <= 3; end++) {
            WicketScorer x = Scorers.begun(1, 2, 0);
            x.declare();
            Scorers.play(x, "@a1");
            x.declare();
            if (end == 1) {
                Scorers.play(x, "@a......");
            } else if (end == 2) {
                for (int left = 0; left < 10; left++) {
                    x.retire(false, false);
                }
            } else {
                x.declare();
            }
            int how = end;
            Check.due("how the third innings ended", how, () -> x.innings(2, 7));
            Check.due("won after the end " + how, 2, x::result);
            Check.reasoned("over after the end " + how, 1, x, x::declare);
        }
    }

    /** Promise 1: "Creates a scorer without a match."; "A new scorer has no match." */
    private static void newScorer() {
        WicketScorer x = new WicketScorer();
        Check.due("no reason", 0, x::reason);
        Check.due("no commands", 0, x::commandCount);
        Check.due("no result", 0, x::result);
        Check.refuses("no innings", BOUNDS, () -> x.innings(0, 0));
        Check.refuses("no rows", NONE, () -> x.storedOvers(0, 0));
        Check.due("an empty buffer", 1, () -> x.append('.'));
        for (int what = 0; what <= 8; what++) {
            WicketScorer y = new WicketScorer();
            int w = what;
            Check.reasoned("no now(" + w + ")", 1, y, () -> y.now(w));
        }
    }

    /** Promise 2: "IllegalArgumentException if a number is out of range, or there is no such team" */
    private static void beginRanges() {
        int[] numbers = {Integer.MIN_VALUE, -1, 0, 1, 2, 3, 20, 21, Integer.MAX_VALUE};
        for (int overs : numbers) {
            for (int innings : numbers) {
                for (int first : numbers) {
                    boolean fine = overs >= 1 && overs <= 20 && (innings == 1 || innings == 2)
                            && (first == 0 || first == 1);
                    Check.due("begin(" + overs + ", " + innings + ", " + first + ")",
                            fine ? (Object) (overs == 20 ? 4 : 1) : "IllegalArgumentException",
                            () -> new WicketScorer().begin(overs, innings, first));
                }
            }
        }
        WicketScorer x = new WicketScorer();
        Check.refuses("a refused begin", ARGUMENT, () -> x.begin(21, 1, 0));
        Check.reasoned("begins no match", 1, x, x::snapshot);
    }

    /** Promise 2: "Returns the number of overs that a bowler can bowl in an innings.": a fifth, rounded up. */
    private static void beginQuota() {
        int[] quotas = {1, 1, 1, 1, 1, 2, 2, 2, 2, 2, 3, 3, 3, 3, 3, 4, 4, 4, 4, 4};
        for (int overs = 1; overs <= 20; overs++) {
            int o = overs;
            Check.due("quota with " + o + " overs", quotas[o - 1], () -> new WicketScorer().begin(o, 2, 1));
        }
    }

    /** Promise 2: "Begins a match.", whatever match there was. */
    private static void beginStartsAnew() {
        WicketScorer x = Scorers.played(1, 1, "@a1W4n6b1..@bwC12");
        x.begin(7, 2, 1);
        Check.row("now", new int[] {0, 1, 0, 1, -1, 0, 2, 7, 0}, x::now);
        Check.row("innings", new int[8], what -> x.innings(0, what));
        Check.row("batter 0", new int[] {0, 0, 0, 0, -1, -1}, what -> x.batter(0, 0, what));
        Check.row("batter 2", new int[] {0, 0, 0, 0, -2, -1}, what -> x.batter(0, 2, what));
        Check.row("bowler 0", new int[7], what -> x.bowler(0, 0, what));
        Check.row("partnership", new int[] {0, 0, 0, 1, 0, 0, 0, 1}, what -> x.partnership(0, 0, what));
        Check.refuses("no second partnership", NONE, () -> x.partnership(0, 1, 0));
        Check.refuses("no wicket", NONE, () -> x.fall(0, 0, 0));
        Check.refuses("no second innings", BOUNDS, () -> x.innings(1, 0));
        Check.due("the bowler of the match before", 0, () -> x.bowl(0));
    }

    /** The same for batters who were chosen, in the first innings and in a later one. */
    private static void beginForgetsChoices() {
        WicketScorer x = Scorers.begun(5, 1, 0);
        x.choose(9);
        x.begin(5, 1, 0);
        Check.due("the next batter of the first innings", 2, () -> x.now(6));
        x.declare();
        x.choose(9);
        x.begin(5, 1, 0);
        x.declare();
        Check.due("the next batter of the second innings", 2, () -> x.now(6));
    }

    /** Promise 2: "The buffer, ..." stays, full or not. */
    private static void beginKeepsBuffer() {
        WicketScorer x = new WicketScorer();
        Scorers.put(x, "@a1");
        x.begin(5, 1, 0);
        Check.due("the buffer stays", 2, x::play);
        Check.due("and is played", 1, () -> x.innings(0, 0));
        Scorers.put(x, ".".repeat(60));
        x.begin(5, 1, 0);
        Check.refuses("a full buffer stays full", UnsupportedOperationException.class, () -> x.append('.'));
    }

    /** Promise 2: "the error position, the reason" stay; nothing says that the refused element is forgotten. */
    private static void beginKeepsAnswers() {
        WicketScorer x = new WicketScorer();
        x.begin(5, 1, 0);
        Check.refuses("there is no error position yet", NONE, x::errorPosition);
        Check.refuses("a malformed text", ARGUMENT, () -> Scorers.play(x, "1x"));
        Check.refuses("a refused text", UnsupportedOperationException.class, () -> Scorers.play(x, "@a.@a"));
        x.begin(5, 1, 0);
        Check.due("the error position stays", 1, x::errorPosition);
        Check.due("the reason stays", 2, x::reason);
        Check.due("the element stays", 2, x::refused);
        Check.refuses("a begin that is refused", ARGUMENT, () -> x.begin(0, 1, 0));
        Check.due("the reason stays then, too", 2, x::reason);
    }

    /** Promise 2: "the rows ... stay". */
    private static void beginKeepsRows() {
        WicketScorer x = Scorers.played(5, 1, "@a1.....@b2");
        x.storeOvers(0, 0, true);
        x.storeOvers(1, 0, false);
        x.begin(5, 1, 0);
        Check.due("a row of ints", 3.0f, () -> x.storedOvers(0, 1));
        Check.due("a row of floats", 1.5f, () -> x.storedOvers(1, 1));
        Check.refuses("their lengths", NONE, () -> x.storedOvers(0, 2));
        Check.refuses("their types", UnsupportedOperationException.class, () -> x.copyOvers(0, 0));
    }

    /** Promise 2: "the snapshot stay[s]". */
    private static void beginKeepsSnapshot() {
        WicketScorer x = Scorers.played(5, 1, "@a1");
        x.snapshot();
        x.begin(9, 2, 1);
        Check.due("restored", 1, x::restore);
        Check.row("now", new int[] {0, 0, 1, 0, 0, 1, 2, 5}, x::now);
        WicketScorer y = Scorers.begun(5, 1, 0);
        Check.reasoned("begin takes no snapshot", 7, y, y::restore);
    }

    /** Promise 8: "Returns the runs of the innings." */
    private static void declareAnswers() {
        WicketScorer x = Scorers.begun(5, 2, 0);
        Check.due("no runs", 0, x::declare);
        Scorers.play(x, "@a6w4n6b4l1.");
        Check.due("runs of all sorts", 6 + 5 + 7 + 4 + 1, x::declare);
    }

    /** Promise 8: declare needs a match alone: nobody need bowl, and an over may have begun. */
    private static void declareInAnyState() {
        WicketScorer x = new WicketScorer();
        Check.reasoned("no match", 1, x, x::declare);
        x.begin(1, 1, 0);
        Check.due("nobody bowls", 0, x::declare);
        x.bowl(0);
        Check.due("no ball yet", 0, x::declare);
        WicketScorer y = Scorers.played(1, 1, "@a.....1@a1");
        y.declare();
        Check.reasoned("the match is over", 1, y, y::declare);
    }
}
