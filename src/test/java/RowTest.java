/** Promises 22 to 26: rates and rows. */
final class RowTest {
    private static final Class<?> ARGUMENT = IllegalArgumentException.class;
    private static final Class<?> BOUNDS = IndexOutOfBoundsException.class;
    private static final Class<?> NONE = java.util.NoSuchElementException.class;

    private RowTest() {
    }

    static void run() {
        runRate();
        strikeRate();
        storeOvers();
        rowsStay();
        copyOvers();
        copyOversRefused();
        storedOvers();
    }

    private static void runRate() {
        WicketScorer x = new WicketScorer();
        Check.refuses("runRate without a match", BOUNDS, () -> x.runRate(0));
        x.begin(5, 1, 0);
        Check.refuses("runRate(-1)", BOUNDS, () -> x.runRate(-1));
        Check.refuses("runRate(1)", BOUNDS, () -> x.runRate(1));
        Scorers.play(x, "@aw4");
        Check.refuses("runRate without legal balls", ArithmeticException.class, () -> x.runRate(0));
        Scorers.play(x, "1");
        Check.due("runRate of 6 runs", 36.0, () -> x.runRate(0));
        Scorers.play(x, "1..3.@b2");
        Check.due("runRate of 12 runs in 7 balls", 72.0 / 7.0, () -> x.runRate(0));
    }

    private static void strikeRate() {
        WicketScorer x = new WicketScorer();
        Check.refuses("strikeRate without a match", BOUNDS, () -> x.strikeRate(0, 0));
        x.begin(5, 1, 0);
        Check.refuses("strikeRate(1, 0)", BOUNDS, () -> x.strikeRate(1, 0));
        Check.refuses("strikeRate(0, -1)", BOUNDS, () -> x.strikeRate(0, -1));
        Check.refuses("strikeRate(0, 11)", BOUNDS, () -> x.strikeRate(0, 11));
        Scorers.play(x, "@aw2");
        Check.refuses("strikeRate without balls", ArithmeticException.class, () -> x.strikeRate(0, 0));
        Scorers.play(x, "2.n");
        Check.due("strikeRate of 2 in 3", 200.0f / 3.0f, () -> x.strikeRate(0, 0));
        Scorers.play(x, "1");
        Check.due("strikeRate of 3 in 4", 75.0f, () -> x.strikeRate(0, 0));
        Check.refuses("strikeRate of the other", ArithmeticException.class, () -> x.strikeRate(0, 1));
    }

    private static void storeOvers() {
        WicketScorer x = new WicketScorer();
        Check.refuses("storeOvers without a match", BOUNDS, () -> x.storeOvers(0, 0, true));
        x.begin(3, 1, 0);
        for (int row : new int[] {-1, 2}) {
            Check.refuses("storeOvers of the row " + row, BOUNDS, () -> x.storeOvers(row, 0, true));
        }
        Check.refuses("storeOvers of the innings 1", BOUNDS, () -> x.storeOvers(0, 1, true));
        Check.due("no elements", 0, () -> x.storeOvers(0, 0, true));
        Scorers.play(x, "@a");
        Check.due("no ball yet", 0, () -> x.storeOvers(0, 0, true));
        Scorers.play(x, "w");
        Check.due("a wide begins an over", 1, () -> x.storeOvers(0, 0, true));
        Check.due("its run", 1.0f, () -> x.storedOvers(0, 0));
        Scorers.play(x, "4.....");
        Check.due("one complete over", 1, () -> x.storeOvers(0, 0, true));
        Check.due("no row changes by itself", 5.0f, () -> x.storedOvers(0, 0));
        Scorers.play(x, "@bn2");
        Check.due("a second over", 2, () -> x.storeOvers(0, 0, true));
        Check.due("all runs", 8.0f, () -> x.storedOvers(0, 1));
        Scorers.play(x, "......@c1");
        Check.due("floats", 3, () -> x.storeOvers(1, 0, false));
        Check.due("runs of one over", 5.0f, () -> x.storedOvers(1, 0));
        Check.due("runs by two overs", 4.0f, () -> x.storedOvers(1, 1));
        Check.due("runs by three overs", 3.0f, () -> x.storedOvers(1, 2));
        Scorers.play(x, "1....");
        Check.due("rounded to float", 3, () -> x.storeOvers(1, 0, false));
        Check.due("runs by three overs then", 10.0f / 3.0f, () -> x.storedOvers(1, 2));
        Check.due("a new innings", 0, () -> x.storeOvers(1, 1, false));
        x.begin(20, 1, 0);
        for (int over = 0; over < 20; over++) {
            Scorers.play(x, "@" + (char) ('a' + over % 5) + "1.....");
        }
        Check.due("20 overs", 20, () -> x.storeOvers(0, 0, true));
        Check.due("their runs", 20.0f, () -> x.storedOvers(0, 19));
    }

    private static void rowsStay() {
        WicketScorer x = Scorers.played(2, 1, "@a6");
        x.storeOvers(0, 0, true);
        x.undo();
        Check.due("undo leaves the rows", 6.0f, () -> x.storedOvers(0, 0));
        x.snapshot();
        x.storeOvers(0, 0, true);
        x.restore();
        Check.refuses("restore leaves the rows", NONE, () -> x.storedOvers(0, 0));
    }

    private static WicketScorer twoRows(boolean exact) {
        WicketScorer x = Scorers.played(3, 1, "@a6.....@b3.....@c1");
        x.storeOvers(0, 0, exact);
        x.begin(3, 1, 0);
        Scorers.play(x, "@a6.....@b2");
        x.storeOvers(1, 0, exact);
        return x;
    }

    private static void copyOvers() {
        for (boolean exact : new boolean[] {true, false}) {
            WicketScorer x = twoRows(exact);
            Check.due("copy of nothing", false, () -> x.copyOvers(0, 0));
            Check.due("copy of what is the same", false, () -> x.copyOvers(0, 1));
            Check.due("copy of two", true, () -> x.copyOvers(0, 2));
            Check.due("copied", exact ? 9.0f : 4.5f, () -> x.storedOvers(1, 1));
            Check.due("copied once more", false, () -> x.copyOvers(0, 2));
            Check.refuses("the length stays", NONE, () -> x.storedOvers(1, 2));
            WicketScorer y = twoRows(exact);
            Check.due("copy the other way", true, () -> y.copyOvers(1, 2));
            Check.due("copied the other way", exact ? 8.0f : 4.0f, () -> y.storedOvers(0, 1));
            Check.due("an element beyond stays", exact ? 10.0f : 10.0f / 3.0f, () -> y.storedOvers(0, 2));
        }
    }

    private static void copyOversRefused() {
        WicketScorer x = new WicketScorer();
        Check.refuses("copy from the row -1", BOUNDS, () -> x.copyOvers(-1, -1));
        Check.refuses("copy from the row 2", BOUNDS, () -> x.copyOvers(2, -1));
        Check.refuses("no rows", NONE, () -> x.copyOvers(0, -1));
        x.begin(3, 1, 0);
        Scorers.play(x, "@a6.....@b2");
        x.storeOvers(0, 0, true);
        Check.refuses("one row", NONE, () -> x.copyOvers(0, -1));
        Check.refuses("one row, from the other", NONE, () -> x.copyOvers(1, -1));
        x.storeOvers(1, 0, false);
        Check.refuses("ints and floats", UnsupportedOperationException.class, () -> x.copyOvers(0, -1));
        Check.refuses("floats and ints", UnsupportedOperationException.class, () -> x.copyOvers(1, 0));
        x.storeOvers(1, 0, true);
        for (int count : new int[] {-1, 3, Integer.MAX_VALUE, Integer.MIN_VALUE}) {
            Check.refuses("copy of " + count, ARGUMENT, () -> x.copyOvers(0, count));
        }
        Check.due("copy of all", false, () -> x.copyOvers(0, 2));
        x.begin(3, 1, 0);
        x.storeOvers(1, 0, true);
        Check.refuses("more than the other row has", ARGUMENT, () -> x.copyOvers(0, 1));
        Check.refuses("more than this row has", ARGUMENT, () -> x.copyOvers(1, 1));
        Check.due("copy of nothing", false, () -> x.copyOvers(1, 0));
    }

    private static void storedOvers() {
        WicketScorer x = Scorers.played(3, 1, "@a6.....");
        Check.refuses("stored row -1", BOUNDS, () -> x.storedOvers(-1, 0));
        Check.refuses("stored row 2", BOUNDS, () -> x.storedOvers(2, 0));
        Check.refuses("not stored yet", NONE, () -> x.storedOvers(1, 0));
        x.storeOvers(1, 0, true);
        Check.due("stored", 6.0f, () -> x.storedOvers(1, 0));
        for (int index : new int[] {-1, 1, 20, Integer.MAX_VALUE, Integer.MIN_VALUE}) {
            Check.refuses("stored element " + index, NONE, () -> x.storedOvers(1, index));
        }
        Check.refuses("the other row", NONE, () -> x.storedOvers(0, 0));
    }
}
