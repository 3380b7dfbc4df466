/** Promises 22 to 26: a test for each sentence that names an edge, with its words above it. */
final class RowEdges {
    private static final Class<?> ARGUMENT = IllegalArgumentException.class;
    private static final Class<?> BOUNDS = IndexOutOfBoundsException.class;
    private static final Class<?> DIVISION = ArithmeticException.class;
    private static final Class<?> NONE = java.util.NoSuchElementException.class;
    private static final Class<?> UNSUPPORTED = UnsupportedOperationException.class;
    private static final int[] NO_ROWS = {Integer.MIN_VALUE, -1, 2, Integer.MAX_VALUE};

    private RowEdges() {
    }

    static void run() {
        runRate();
        runRateWithoutBalls();
        strikeRate();
        strikeRateWithoutBalls();
        noRow();
        emptyRow();
        overComplete();
        oneElementMore();
        runsBeforeTheFirstLegalBall();
        rowWhenInningsEnded();
        greatestRow();
        intsOrFloats();
        storeReplaces();
        storeRefusedKeeps();
        copyCounts();
        copyExceptionsInOrder();
        copyNotStored();
        copyTypes();
        copyChanges();
        copyFromIndexZero();
        storedRanges();
    }

    /** Promise 22: "its runs times 6, divided by its legal balls, both converted to double." */
    private static void runRate() {
        WicketScorer x = Scorers.played(5, 1, "@a.");
        Check.due("no runs", 0.0, () -> x.runRate(0));
        Scorers.play(x, "w4");
        Check.due("5 runs in 1 ball", 30.0, () -> x.runRate(0));
        Scorers.play(x, ".....@b.");
        Check.due("5 runs in 7 balls", 30.0 / 7.0, () -> x.runRate(0));
        x.declare();
        Scorers.play(x, "@a1");
        Check.due("the second innings", 6.0, () -> x.runRate(1));
        Check.due("the first one then", 30.0 / 7.0, () -> x.runRate(0));
    }

    /** Promise 22: "if it has no legal balls" */
    private static void runRateWithoutBalls() {
        WicketScorer x = Scorers.begun(5, 1, 0);
        Check.refuses("no ball", DIVISION, () -> x.runRate(0));
        Scorers.play(x, "@awn");
        Check.refuses("no legal ball", DIVISION, () -> x.runRate(0));
        x.wicket(3, 1, false, 0, false);
        Check.refuses("no legal ball with a wicket", DIVISION, () -> x.runRate(0));
        x.declare();
        Check.refuses("nor when it is over", DIVISION, () -> x.runRate(0));
        Check.refuses("nor in the second innings", DIVISION, () -> x.runRate(1));
        Check.due("no reason", 0, x::reason);
    }

    /** Promise 23: "the runs times 100, divided by the balls faced, both converted to float." */
    private static void strikeRate() {
        WicketScorer x = Scorers.played(5, 1, "@a.");
        Check.due("no runs", 0.0f, () -> x.strikeRate(0, 0));
        Scorers.play(x, "4n2");
        Check.due("6 runs in 3 balls", 200.0f, () -> x.strikeRate(0, 0));
        Scorers.play(x, "b2l2.4");
        Check.due("10 runs in 7 balls", 1000.0f / 7.0f, () -> x.strikeRate(0, 0));
        x.declare();
        Scorers.play(x, "@a1");
        Check.due("the second innings", 100.0f, () -> x.strikeRate(1, 0));
    }

    /** Promise 23: "if the player has faced no balls", after the players and innings that there are not */
    private static void strikeRateWithoutBalls() {
        WicketScorer x = Scorers.played(5, 1, "@aw4");
        Check.refuses("wides are not faced", DIVISION, () -> x.strikeRate(0, 0));
        Check.refuses("the other batter", DIVISION, () -> x.strikeRate(0, 1));
        Check.refuses("who has not batted", DIVISION, () -> x.strikeRate(0, 10));
        Check.refuses("no such player", BOUNDS, () -> x.strikeRate(0, 11));
        Check.refuses("no player -1", BOUNDS, () -> x.strikeRate(0, -1));
        x.ball(2, 0, false);
        Check.due("a no-ball is faced", 0.0f, () -> x.strikeRate(0, 0));
    }

    /** "if there is no such row": 0 or 1 */
    private static void noRow() {
        WicketScorer x = Scorers.played(5, 1, "@a1");
        for (int row : NO_ROWS) {
            Check.refuses("no storeOvers of the row " + row, BOUNDS, () -> x.storeOvers(row, 0, true));
            Check.refuses("no copyOvers from the row " + row, BOUNDS, () -> x.copyOvers(row, 0));
            Check.refuses("no storedOvers of the row " + row, BOUNDS, () -> x.storedOvers(row, 0));
        }
        for (int row = 0; row <= 1; row++) {
            int r = row;
            Check.due("storeOvers of the row " + r, 1, () -> x.storeOvers(r, 0, true));
            Check.due("storedOvers of the row " + r, 1.0f, () -> x.storedOvers(r, 0));
            Check.refuses("no innings for the row " + r, BOUNDS, () -> x.storeOvers(r, 1, true));
            Check.refuses("no innings -1 for the row " + r, BOUNDS, () -> x.storeOvers(r, -1, true));
        }
    }

    /** "Returns the number of elements.": none before the first ball */
    private static void emptyRow() {
        for (boolean exact : new boolean[] {true, false}) {
            WicketScorer x = Scorers.begun(5, 1, 0);
            Check.due("before a bowler", 0, () -> x.storeOvers(0, 0, exact));
            x.bowl(0);
            Check.due("before a ball", 0, () -> x.storeOvers(1, 0, exact));
            Check.refuses("it has no element", NONE, () -> x.storedOvers(0, 0));
            Check.due("but is stored", false, () -> x.copyOvers(0, 0));
            Check.refuses("and nothing can be copied", ARGUMENT, () -> x.copyOvers(0, 1));
        }
    }

    /** "the element k, from 0, is the number of runs of the team when the over k was complete" */
    private static void overComplete() {
        WicketScorer x = Scorers.played(5, 1, "@a1w1...4");
        Check.due("5 legal balls", 1, () -> x.storeOvers(0, 0, true));
        x.ball(3, 3, false);
        Check.due("6 legal balls", 1, () -> x.storeOvers(0, 0, true));
        Check.due("runs of the over 0", 10.0f, () -> x.storedOvers(0, 0));
        Scorers.play(x, "@b......@c6");
        Check.due("two complete overs", 3, () -> x.storeOvers(0, 0, true));
        Check.due("the over 0 stays", 10.0f, () -> x.storedOvers(0, 0));
        Check.due("runs of the over 1", 10.0f, () -> x.storedOvers(0, 1));
        Check.due("all runs", 16.0f, () -> x.storedOvers(0, 2));
    }

    /** "and, if a ball of an over that is not complete was bowled, there is one more element with all runs." */
    private static void oneElementMore() {
        for (String ball : new String[] {".", "w", "n", "b1", "W", "....."}) {
            WicketScorer x = Scorers.played(5, 1, "@a2.....@b");
            Check.due("one before " + ball, 1, () -> x.storeOvers(0, 0, true));
            Scorers.play(x, ball);
            Check.due("two after " + ball, 2, () -> x.storeOvers(0, 0, true));
            Check.due("all runs after " + ball, (float) x.innings(0, 0), () -> x.storedOvers(0, 1));
        }
    }

    /** "Runs that come before the first legal ball of an over belong to that over, which has begun then." */
    private static void runsBeforeTheFirstLegalBall() {
        WicketScorer x = Scorers.played(5, 1, "@a2.....@bw3n1");
        Check.due("the over 1 has begun", 2, () -> x.storeOvers(0, 0, true));
        Check.due("the over 0 has its runs alone", 2.0f, () -> x.storedOvers(0, 0));
        Check.due("the over 1 has these", 8.0f, () -> x.storedOvers(0, 1));
        Scorers.play(x, "......");
        Check.due("no over more", 2, () -> x.storeOvers(0, 0, true));
        Check.due("the over 0 then", 2.0f, () -> x.storedOvers(0, 0));
        Check.due("the over 1 then", 8.0f, () -> x.storedOvers(0, 1));
    }

    /** The same for an innings that is over, and for one that is not the present one. */
    private static void rowWhenInningsEnded() {
        WicketScorer x = Scorers.played(5, 1, "@a2.....@b4");
        x.declare();
        Scorers.play(x, "@a1");
        Check.due("declared in an over", 2, () -> x.storeOvers(0, 0, true));
        Check.due("its runs", 6.0f, () -> x.storedOvers(0, 1));
        Check.due("the present one", 1, () -> x.storeOvers(0, 1, true));
        Scorers.play(x, "6");
        Check.due("won in an over", 1, () -> x.storeOvers(0, 1, true));
        Check.due("its runs then", 7.0f, () -> x.storedOvers(0, 0));
        WicketScorer y = Scorers.played(1, 1, "@a2.....");
        Check.due("complete overs", 1, () -> y.storeOvers(0, 0, true));
    }

    /** The greatest row: 20 overs. */
    private static void greatestRow() {
        for (boolean exact : new boolean[] {true, false}) {
            WicketScorer x = Scorers.begun(20, 1, 0);
            for (int over = 0; over < 20; over++) {
                Scorers.play(x, "@" + (char) ('a' + over % 5) + "66666" + (over < 19 ? "6" : ""));
            }
            Check.due("20 elements before the last ball", 20, () -> x.storeOvers(0, 0, exact));
            Check.due("the last one", exact ? 714.0f : 714.0f / 20.0f, () -> x.storedOvers(0, 19));
            x.ball(0, 6, true);
            Check.due("20 elements after it", 20, () -> x.storeOvers(1, 0, exact));
            Check.due("the last one then", exact ? 720.0f : 36.0f, () -> x.storedOvers(1, 19));
            Check.due("all are copied", true, () -> x.copyOvers(0, 20));
            Check.refuses("one more cannot be", ARGUMENT, () -> x.copyOvers(0, 21));
        }
    }

    /** "true for a row of ints; false for a row of floats, with the runs divided by k + 1, both converted to float" */
    private static void intsOrFloats() {
        WicketScorer x = Scorers.played(5, 1, "@a1.....@b......@c......@d2");
        x.storeOvers(0, 0, true);
        x.storeOvers(1, 0, false);
        float[] runs = {1, 1, 1, 3};
        for (int over = 0; over < runs.length; over++) {
            int k = over;
            Check.due("int " + k, runs[k], () -> x.storedOvers(0, k));
            Check.due("float " + k, runs[k] / (float) (k + 1), () -> x.storedOvers(1, k));
        }
    }

    /** "as a new row": longer, shorter, and of the other type */
    private static void storeReplaces() {
        WicketScorer x = Scorers.played(5, 1, "@a1.....@b2");
        x.storeOvers(0, 0, true);
        x.storeOvers(1, 0, true);
        x.declare();
        Scorers.play(x, "@a2");
        Check.due("a shorter one", 1, () -> x.storeOvers(0, 1, false));
        Check.due("its element", 2.0f, () -> x.storedOvers(0, 0));
        Check.refuses("no element of the earlier one", NONE, () -> x.storedOvers(0, 1));
        Check.refuses("nor its type", UNSUPPORTED, () -> x.copyOvers(0, 0));
        Check.due("the other row stays", 3.0f, () -> x.storedOvers(1, 1));
        Check.due("a longer one", 2, () -> x.storeOvers(0, 0, true));
        Check.due("its last element", 3.0f, () -> x.storedOvers(0, 1));
    }

    /** A call that throws leaves the rows. */
    private static void storeRefusedKeeps() {
        WicketScorer x = Scorers.played(5, 1, "@a1");
        x.storeOvers(0, 0, true);
        Check.refuses("no such innings", BOUNDS, () -> x.storeOvers(0, 1, false));
        Check.due("the row stays", 1.0f, () -> x.storedOvers(0, 0));
        Check.refuses("no such innings for a new row", BOUNDS, () -> x.storeOvers(1, 1, false));
        Check.refuses("it is not stored", NONE, () -> x.storedOvers(1, 0));
        Check.refuses("nor can it be copied", NONE, () -> x.copyOvers(0, 0));
    }

    /** Two rows of a type, the row 0 with the runs 1, 3, 6 and the row 1 with the runs 1, 5. */
    private static WicketScorer threeAndTwo(boolean exact) {
        WicketScorer x = Scorers.played(5, 1, "@a1.....@b2.....@c3");
        x.declare();
        Scorers.play(x, "@a1.....@b4");
        x.storeOvers(0, 0, exact);
        x.storeOvers(1, 1, exact);
        return x;
    }

    /** Promise 25: "if count is negative or greater than the length of one of the rows" */
    private static void copyCounts() {
        for (int from = 0; from <= 1; from++) {
            WicketScorer x = threeAndTwo(true);
            int f = from;
            for (int count : new int[] {Integer.MIN_VALUE, -1, 3, 4, Integer.MAX_VALUE}) {
                Check.refuses("no copy of " + count + " from " + f, ARGUMENT, () -> x.copyOvers(f, count));
            }
            Check.due("nothing was copied", 3.0f, () -> x.storedOvers(0, 1));
            Check.due("nor there", 5.0f, () -> x.storedOvers(1, 1));
            Check.due("a copy of 0 from " + f, false, () -> x.copyOvers(f, 0));
            Check.due("a copy of 2 from " + f, true, () -> x.copyOvers(f, 2));
        }
    }

    /** Promise 25: the four exceptions "are checked in the order in which they are listed". */
    private static void copyExceptionsInOrder() {
        WicketScorer x = Scorers.played(5, 1, "@a1");
        Check.refuses("no such row, and none stored", BOUNDS, () -> x.copyOvers(2, -1));
        Check.refuses("none stored, and a wrong count", NONE, () -> x.copyOvers(0, -1));
        x.storeOvers(0, 0, true);
        Check.refuses("one stored, and a wrong count", NONE, () -> x.copyOvers(1, 99));
        x.storeOvers(1, 0, false);
        Check.refuses("other types, and a wrong count", UNSUPPORTED, () -> x.copyOvers(0, -1));
        Check.refuses("other types, and no such row", BOUNDS, () -> x.copyOvers(-1, 0));
        Check.due("no reason", 0, x::reason);
    }

    /** Promise 25: "if one of the rows was not stored yet" */
    private static void copyNotStored() {
        for (int stored = 0; stored <= 1; stored++) {
            WicketScorer x = Scorers.played(5, 1, "@a1");
            x.storeOvers(stored, 0, true);
            Check.refuses("from the row 0", NONE, () -> x.copyOvers(0, 0));
            Check.refuses("from the row 1", NONE, () -> x.copyOvers(1, 0));
            x.storeOvers(1 - stored, 0, true);
            Check.due("both are stored", false, () -> x.copyOvers(0, 1));
        }
    }

    /** Promise 25: "if the rows have different element types" */
    private static void copyTypes() {
        WicketScorer x = Scorers.played(5, 1, "@a1");
        for (boolean zero : new boolean[] {true, false}) {
            for (boolean one : new boolean[] {true, false}) {
                x.storeOvers(0, 0, zero);
                x.storeOvers(1, 0, one);
                Object due = zero == one ? (Object) false : "UnsupportedOperationException";
                Check.due("ints " + zero + " and " + one, due, () -> x.copyOvers(0, 1));
                Check.due("ints " + one + " and " + zero, due, () -> x.copyOvers(1, 1));
            }
        }
    }

    /** Promise 25: "Returns true if at least one element of the other row has changed." */
    private static void copyChanges() {
        for (boolean exact : new boolean[] {true, false}) {
            WicketScorer x = threeAndTwo(exact);
            Check.due("the first one is the same", false, () -> x.copyOvers(0, 1));
            Check.due("the second one is not", true, () -> x.copyOvers(0, 2));
            Check.due("now it is", false, () -> x.copyOvers(0, 2));
            Check.due("the other way as well", false, () -> x.copyOvers(1, 2));
        }
        WicketScorer y = Scorers.played(5, 1, "@a1.....@b4");
        y.declare();
        Scorers.play(y, "@a3.....@b2");
        y.storeOvers(0, 0, true);
        y.storeOvers(1, 1, true);
        Check.due("the first one alone is another", true, () -> y.copyOvers(0, 2));
        Check.due("copied", 1.0f, () -> y.storedOvers(1, 0));
        Check.due("the second one is the same", 5.0f, () -> y.storedOvers(1, 1));
    }

    /** Promise 25: "Copies the elements of a row into the other row, from index 0 on.": no others, and no length. */
    private static void copyFromIndexZero() {
        WicketScorer x = threeAndTwo(true);
        x.copyOvers(1, 2);
        Check.due("the element 0", 1.0f, () -> x.storedOvers(0, 0));
        Check.due("the element 1", 5.0f, () -> x.storedOvers(0, 1));
        Check.due("the element 2 stays", 6.0f, () -> x.storedOvers(0, 2));
        Check.due("the source stays", 5.0f, () -> x.storedOvers(1, 1));
        Check.refuses("and its length", NONE, () -> x.storedOvers(1, 2));
        x.storeOvers(0, 0, true);
        Check.due("the innings stays", 1.0f, () -> x.storedOvers(0, 0));
        Check.due("all of it", 3.0f, () -> x.storedOvers(0, 1));
    }

    /** Promise 26: "if the row was not stored yet, or has no such element" */
    private static void storedRanges() {
        WicketScorer x = Scorers.played(5, 1, "@a1.....@b2");
        for (int row = 0; row <= 1; row++) {
            int r = row;
            Check.refuses("not stored yet", NONE, () -> x.storedOvers(r, 0));
            Check.refuses("not stored yet, and no such element", NONE, () -> x.storedOvers(r, -1));
            x.storeOvers(r, 0, true);
            for (int index : new int[] {Integer.MIN_VALUE, -1, 2, 20, 21, Integer.MAX_VALUE}) {
                Check.refuses("no element " + index, NONE, () -> x.storedOvers(r, index));
            }
            Check.due("the first one", 1.0f, () -> x.storedOvers(r, 0));
            Check.due("the last one", 3.0f, () -> x.storedOvers(r, 1));
        }
        Check.refuses("no such row, and no such element", BOUNDS, () -> x.storedOvers(2, -1));
    }
}
