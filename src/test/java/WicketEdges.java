/** "Wickets." and promise 5: a test for each sentence that names an edge, with its words above it. */
final class WicketEdges {
    private static final int RUN_OUT = 5;
    private static final boolean[] BOTH = {false, true};

    private WicketEdges() {
    }

    interface Each {
        void wicket(int way, int kind, boolean other, int runs, boolean crossed);
    }

    static void run() {
        ranges();
        possible();
        whoIsOut();
        runsCount();
        penaltyCounts();
        bowlerGetsIt();
        ends();
        endsOfOver();
        numbers();
        notAllowed();
        reasonsInOrder();
    }

    /** Every combination of arguments that are in range. */
    private static void eachInRange(Each each) {
        for (int way = 0; way <= 5; way++) {
            for (int kind = 0; kind <= 2; kind++) {
                for (int runs = 0; runs <= 3; runs++) {
                    for (boolean other : BOTH) {
                        each.wicket(way, kind, other, runs, false);
                        each.wicket(way, kind, other, runs, true);
                    }
                }
            }
        }
    }

    private static void eachPossible(Each each) {
        eachInRange((way, kind, other, runs, crossed) -> {
            if (isPossible(way, kind, other, runs, crossed)) {
                each.wicket(way, kind, other, runs, crossed);
            }
        });
    }

    private static boolean isPossible(int way, int kind, boolean other, int runs, boolean crossed) {
        switch (way) {
            case 1:
                return kind == 0 && !other && runs == 0;
            case 3:
                return kind < 2 && !other && runs == 0 && !crossed;
            case RUN_OUT:
                return true;
            default:
                return kind == 0 && !other && runs == 0 && !crossed;
        }
    }

    private static String name(int way, int kind, boolean other, int runs, boolean crossed) {
        return "wicket(" + way + ", " + kind + ", " + other + ", " + runs + ", " + crossed + ")";
    }

    /** "if way, kind or runs is out of range" */
    private static void ranges() {
        int[] numbers = {Integer.MIN_VALUE, -1, 0, 2, 3, 4, 5, 6, Integer.MAX_VALUE};
        for (int way : numbers) {
            for (int kind : numbers) {
                for (int runs : numbers) {
                    boolean fine = way >= 0 && way <= 5 && kind >= 0 && kind <= 2 && runs >= 0 && runs <= 3;
                    WicketScorer x = Scorers.played(5, 1, "@d");
                    boolean possible = fine && isPossible(way, kind, false, runs, false);
                    Object due = possible ? 1 : fine ? "IllegalStateException" : "IllegalArgumentException";
                    Check.due(name(way, kind, false, runs, false), due, () -> x.wicket(way, kind, false, runs, false));
                    Check.due("its reason", fine && !possible ? 6 : 0, x::reason);
                }
            }
        }
    }

    /** "or this cannot happen in this way or on such a ball, with the other batter, these runs or crossing included (6)" */
    private static void possible() {
        eachInRange((way, kind, other, runs, crossed) -> {
            WicketScorer x = Scorers.played(5, 1, "@d");
            boolean possible = isPossible(way, kind, other, runs, crossed);
            String name = name(way, kind, other, runs, crossed);
            Check.due(name, possible ? (Object) 1 : "IllegalStateException",
                    () -> x.wicket(way, kind, other, runs, crossed));
            Check.due(name + ": reason", possible ? 0 : 6, x::reason);
            Check.due(name + ": commands", possible ? 2 : 1, x::commandCount);
        });
    }

    /** "Only with a run-out, the other batter can be out ...; in the other ways the striker is out" */
    private static void whoIsOut() {
        eachPossible((way, kind, other, runs, crossed) -> {
            WicketScorer x = Scorers.played(5, 1, "@d");
            x.wicket(way, kind, other, runs, crossed);
            String name = name(way, kind, other, runs, crossed);
            int out = other ? 1 : 0;
            Check.due(name + ": out", way, () -> x.batter(0, out, 4));
            Check.due(name + ": not out", -1, () -> x.batter(0, 1 - out, 4));
            Check.due(name + ": came in", -1, () -> x.batter(0, 2, 4));
            Check.due(name + ": fall", out, () -> x.fall(0, 0, 0));
        });
    }

    /** "the batters can have run before, 0 to 3 runs, which count as on a ball of this kind without a wicket" */
    private static void runsCount() {
        eachPossible((way, kind, other, runs, crossed) -> {
            WicketScorer x = Scorers.played(5, 1, "@d");
            x.wicket(way, kind, other, runs, crossed);
            WicketScorer y = Scorers.played(5, 1, "@d");
            y.ball(kind, runs, false);
            String name = name(way, kind, other, runs, crossed);
            for (int w : new int[] {0, 2, 3, 4, 5, 6}) {
                Check.due(name + ": innings, " + w, y.innings(0, w), () -> x.innings(0, w));
            }
            for (int w : new int[] {0, 1, 4, 5}) {
                Check.due(name + ": bowler, " + w, y.bowler(0, 3, w), () -> x.bowler(0, 3, w));
            }
            for (int w = 0; w <= 3; w++) {
                int what = w;
                Check.due(name + ": striker, " + w, y.batter(0, 0, w), () -> x.batter(0, 0, what));
                Check.due(name + ": other, " + w, y.batter(0, 1, w), () -> x.batter(0, 1, what));
            }
            for (int w : new int[] {0, 1, 4, 5, 6}) {
                Check.due(name + ": partnership, " + w, y.partnership(0, 0, w), () -> x.partnership(0, 0, w));
            }
        });
    }

    /** "but the penalty run counts" */
    private static void penaltyCounts() {
        WicketScorer x = Scorers.played(5, 1, "@d");
        x.wicket(3, 1, false, 0, false);
        Check.row("stumped on a wide", new int[] {1, 1, 0, 1, 0, 0, 0, 0}, what -> x.innings(0, what));
        Check.row("its bowler", new int[] {0, 1, 1, 0, 1, 0, 0}, what -> x.bowler(0, 3, what));
        Check.row("its fall", new int[] {0, 1, 0}, what -> x.fall(0, 0, what));
        WicketScorer y = Scorers.played(5, 1, "@d");
        y.wicket(RUN_OUT, 2, false, 0, false);
        Check.row("run out on a no-ball", new int[] {1, 1, 0, 0, 1, 0, 0, 0}, what -> y.innings(0, what));
    }

    /** "The bowler gets the wicket, except for a run-out." */
    private static void bowlerGetsIt() {
        eachPossible((way, kind, other, runs, crossed) -> {
            WicketScorer x = Scorers.played(5, 1, "@d");
            x.wicket(way, kind, other, runs, crossed);
            String name = name(way, kind, other, runs, crossed);
            Check.due(name + ": wickets of the bowler", way == RUN_OUT ? 0 : 1, () -> x.bowler(0, 3, 2));
            Check.due(name + ": taken by", way == RUN_OUT ? -1 : 3, () -> x.batter(0, other ? 1 : 0, 5));
            Check.due(name + ": wickets of the innings", 1, () -> x.innings(0, 1));
        });
    }

    /** "The batters change ends if these runs are odd; then they change ends once more if they crossed" */
    private static void ends() {
        eachPossible((way, kind, other, runs, crossed) -> {
            WicketScorer x = Scorers.played(5, 1, "@d");
            x.wicket(way, kind, other, runs, crossed);
            int changes = runs % 2 + (crossed ? 1 : 0);
            int striker = changes == 1 ? 1 : 0;
            int out = other ? 1 : 0;
            String name = name(way, kind, other, runs, crossed);
            Check.due(name + ": striker", striker == out ? 2 : striker, () -> x.now(2));
            Check.due(name + ": other", striker == out ? 1 - striker : 2, () -> x.now(3));
        });
    }

    /** "after all these changes", but before those of the over's end. */
    private static void endsOfOver() {
        for (boolean crossed : BOTH) {
            WicketScorer x = Scorers.played(5, 1, "@d.....");
            x.wicket(1, 0, false, 0, crossed);
            Check.due("striker after an over with a last wicket", crossed ? 2 : 1, () -> x.now(2));
            Check.due("other after an over with a last wicket", crossed ? 1 : 2, () -> x.now(3));
        }
    }

    /** "Returns the number of wickets that fell in this innings until then.": from 1 to 10. */
    private static void numbers() {
        WicketScorer x = Scorers.begun(5, 1, 0);
        for (int innings = 0; innings < 2; innings++) {
            for (int wicket = 1; wicket <= 10; wicket++) {
                if (x.now(4) < 0) {
                    x.bowl(wicket);
                }
                int w = wicket;
                Check.due("wicket " + w + " of the innings " + innings, w, () -> x.wicket(2, 0, false, 0, false));
            }
        }
        WicketScorer y = Scorers.played(5, 1, "@aW");
        y.retire(false, false);
        Check.due("a retirement is no wicket", 2, () -> y.wicket(0, 0, false, 0, false));
    }

    /** "if there is no match, or it is over (1), nobody bowls (3)" */
    private static void notAllowed() {
        WicketScorer x = new WicketScorer();
        Check.reasoned("no match", 1, x, () -> x.wicket(0, 0, false, 0, false));
        x.begin(1, 1, 0);
        Check.reasoned("nobody bowls", 3, x, () -> x.wicket(0, 0, false, 0, false));
        WicketScorer y = Scorers.played(1, 1, "@a......@a1");
        Check.reasoned("the match is over", 1, y, () -> y.wicket(0, 0, false, 0, false));
    }

    /** "If several reasons apply, the one that is listed first with the method is kept." */
    private static void reasonsInOrder() {
        WicketScorer x = new WicketScorer();
        Check.refuses("a wrong number without a match", IllegalArgumentException.class,
                () -> x.wicket(0, 0, true, 4, true));
        Check.due("no reason is kept", 0, x::reason);
        Check.reasoned("impossible and no match", 1, x, () -> x.wicket(0, 2, true, 3, true));
        x.begin(1, 1, 0);
        Check.reasoned("impossible and nobody bowls", 3, x, () -> x.wicket(0, 2, true, 3, true));
        WicketScorer y = Scorers.played(1, 1, "@a......@a1");
        Check.reasoned("impossible and over", 1, y, () -> y.wicket(0, 2, true, 3, true));
    }
}
