/** "Balls." and promise 4: a test for each sentence that names an edge, with its words above it. */
final class BallEdges {
    private static final int[] LEAST = {0, 0, 0, 1, 1};
    private static final int[] MOST = {6, 4, 6, 4, 4};

    private BallEdges() {
    }

    interface Each {
        void ball(WicketScorer x, int kind, int runs, boolean boundary);
    }

    static void run() {
        ranges();
        hits();
        wides();
        noBalls();
        byes();
        teamGetsAll();
        strikerFaces();
        bowlerConcedes();
        endsChange();
        boundariesCount();
        needsBowler();
        reasonsInOrder();
    }

    private static boolean canBeBoundary(int kind, int runs) {
        return (kind == 0 || kind == 2) && (runs == 4 || runs == 6);
    }

    /** Makes every ball that there is, each in a match of its own in which player 3 bowls the first over. */
    private static void eachBall(Each each) {
        for (int kind = 0; kind <= 4; kind++) {
            for (int runs = LEAST[kind]; runs <= MOST[kind]; runs++) {
                WicketScorer x = Scorers.played(5, 1, "@d");
                each.ball(x, kind, runs, false);
                if (canBeBoundary(kind, runs)) {
                    WicketScorer y = Scorers.played(5, 1, "@d");
                    each.ball(y, kind, runs, true);
                }
            }
        }
    }

    private static String name(int kind, int runs, boolean boundary) {
        return "ball(" + kind + ", " + runs + ", " + boundary + ")";
    }

    /** "if kind or runs is out of range, or the ball cannot be a boundary": every kind, every number of runs. */
    private static void ranges() {
        int[] numbers = {Integer.MIN_VALUE, -1, 0, 1, 2, 3, 4, 5, 6, 7, Integer.MAX_VALUE};
        for (int kind : numbers) {
            for (int runs : numbers) {
                for (boolean boundary : new boolean[] {false, true}) {
                    boolean fine = kind >= 0 && kind <= 4 && runs >= LEAST[kind] && runs <= MOST[kind]
                            && (!boundary || canBeBoundary(kind, runs));
                    int team = kind == 1 || kind == 2 ? runs + 1 : runs;
                    WicketScorer x = Scorers.played(5, 1, "@d");
                    Check.due(name(kind, runs, boundary), fine ? (Object) team : "IllegalArgumentException",
                            () -> x.ball(kind, runs, boundary));
                    Check.due(name(kind, runs, boundary) + " is a command", fine ? 2 : 1, x::commandCount);
                    Check.due(name(kind, runs, boundary) + " keeps no reason", 0, x::reason);
                }
            }
        }
    }

    private static void sums(WicketScorer x, String name, int[] innings, int[] batter, int[] bowler) {
        Check.row(name + ": innings", innings, what -> x.innings(0, what));
        Check.row(name + ": striker", batter, what -> x.batter(0, 0, what));
        Check.row(name + ": bowler", bowler, what -> x.bowler(0, 3, what));
        Check.row(name + ": other batter", new int[] {0, 0, 0, 0, -1, -1}, what -> x.batter(0, 1, what));
    }

    /** "kind 0, a hit: 0 to 6 runs for the striker" */
    private static void hits() {
        for (int runs = 0; runs <= 6; runs++) {
            WicketScorer x = Scorers.played(5, 1, "@d");
            x.ball(0, runs, false);
            sums(x, "hit " + runs, new int[] {runs, 0, 1, 0, 0, 0, 0, 0}, new int[] {runs, 1, 0, 0, -1, -1},
                    new int[] {1, runs, 0, 0, 0, 0, 0});
        }
    }

    /** "kind 1, a wide: 1 penalty run and 0 to 4 runs, all of them wides; not a legal ball" */
    private static void wides() {
        for (int runs = 0; runs <= 4; runs++) {
            WicketScorer x = Scorers.played(5, 1, "@d");
            x.ball(1, runs, false);
            sums(x, "wide " + runs, new int[] {runs + 1, 0, 0, runs + 1, 0, 0, 0, 0}, new int[] {0, 0, 0, 0, -1, -1},
                    new int[] {0, runs + 1, 0, 0, 1, 0, 0});
        }
    }

    /** "kind 2, a no-ball: 1 penalty run, a no-ball, and 0 to 6 runs for the striker; not a legal ball" */
    private static void noBalls() {
        for (int runs = 0; runs <= 6; runs++) {
            WicketScorer x = Scorers.played(5, 1, "@d");
            x.ball(2, runs, false);
            sums(x, "no-ball " + runs, new int[] {runs + 1, 0, 0, 0, 1, 0, 0, 0}, new int[] {runs, 1, 0, 0, -1, -1},
                    new int[] {0, runs + 1, 0, 0, 0, 1, 0});
        }
    }

    /** "kind 3, byes, and kind 4, leg byes: 1 to 4 runs, all of them byes or leg byes" */
    private static void byes() {
        for (int runs = 1; runs <= 4; runs++) {
            WicketScorer x = Scorers.played(5, 1, "@d");
            x.ball(3, runs, false);
            sums(x, "byes " + runs, new int[] {runs, 0, 1, 0, 0, runs, 0, 0}, new int[] {0, 1, 0, 0, -1, -1},
                    new int[] {1, 0, 0, 0, 0, 0, 0});
            WicketScorer y = Scorers.played(5, 1, "@d");
            y.ball(4, runs, false);
            sums(y, "leg byes " + runs, new int[] {runs, 0, 1, 0, 0, 0, runs, 0}, new int[] {0, 1, 0, 0, -1, -1},
                    new int[] {1, 0, 0, 0, 0, 0, 0});
        }
    }

    /** "The team gets all these runs."; "Returns the runs that the team gets." */
    private static void teamGetsAll() {
        eachBall((x, kind, runs, boundary) -> {
            int answered = x.ball(kind, runs, boundary);
            Check.due(name(kind, runs, boundary) + " for the team", answered, () -> x.innings(0, 0));
            Check.due(name(kind, runs, boundary) + " for the partnership", answered, () -> x.partnership(0, 0, 0));
        });
    }

    /** "The striker faces all balls except wides." */
    private static void strikerFaces() {
        eachBall((x, kind, runs, boundary) -> {
            x.ball(kind, runs, boundary);
            Check.due(name(kind, runs, boundary) + " faced", kind == 1 ? 0 : 1, () -> x.batter(0, 0, 1));
            Check.due(name(kind, runs, boundary) + " not faced by the other", 0, () -> x.batter(0, 1, 1));
        });
    }

    /** "The bowler concedes all runs except byes and leg byes." */
    private static void bowlerConcedes() {
        eachBall((x, kind, runs, boundary) -> {
            int team = x.ball(kind, runs, boundary);
            Check.due(name(kind, runs, boundary) + " conceded", kind > 2 ? 0 : team, () -> x.bowler(0, 3, 1));
        });
    }

    /** "If the ball is no boundary, and its number of runs is odd, the batters change ends": without the penalty run. */
    private static void endsChange() {
        eachBall((x, kind, runs, boundary) -> {
            x.ball(kind, runs, boundary);
            int striker = runs == 1 || runs == 3 || runs == 5 ? 1 : 0;
            Check.due(name(kind, runs, boundary) + ": striker", striker, () -> x.now(2));
            Check.due(name(kind, runs, boundary) + ": other", 1 - striker, () -> x.now(3));
        });
    }

    /** "Only balls of the kinds 0 and 2 with 4 or 6 runs can be boundaries.": these alone count as such. */
    private static void boundariesCount() {
        eachBall((x, kind, runs, boundary) -> {
            x.ball(kind, runs, boundary);
            Check.due(name(kind, runs, boundary) + ": fours", boundary && runs == 4 ? 1 : 0, () -> x.batter(0, 0, 2));
            Check.due(name(kind, runs, boundary) + ": sixes", boundary && runs == 6 ? 1 : 0, () -> x.batter(0, 0, 3));
        });
    }

    /** "if there is no match, or it is over (1), or nobody bowls (3)" */
    private static void needsBowler() {
        WicketScorer x = new WicketScorer();
        Check.reasoned("no match", 1, x, () -> x.ball(0, 0, false));
        x.begin(1, 1, 0);
        Check.reasoned("nobody bowls", 3, x, () -> x.ball(0, 0, false));
        WicketScorer y = Scorers.played(2, 1, "@a......");
        Check.reasoned("nobody bowls after an over", 3, y, () -> y.ball(1, 0, false));
        WicketScorer z = Scorers.played(1, 1, "@a......@a1");
        Check.due("the match is over", 2, z::result);
        Check.reasoned("over, with a bowler who stays", 1, z, () -> z.ball(0, 0, false));
    }

    /** Exceptions "are checked in the order in which they are listed": a wrong ball comes before its reasons. */
    private static void reasonsInOrder() {
        WicketScorer x = new WicketScorer();
        Check.refuses("a wrong kind without a match", IllegalArgumentException.class, () -> x.ball(5, 0, false));
        x.begin(1, 1, 0);
        Check.refuses("wrong runs without a bowler", IllegalArgumentException.class, () -> x.ball(3, 0, false));
        Check.refuses("a wrong boundary without a bowler", IllegalArgumentException.class, () -> x.ball(0, 5, true));
        Check.due("no reason is kept", 0, x::reason);
    }
}
