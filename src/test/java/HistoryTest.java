/** Promises 27 to 32: reasons, commands, undo, replay, snapshot. */
final class HistoryTest {
    private static final Class<?> STATE = IllegalStateException.class;

    private HistoryTest() {
    }

    static void run() {
        reason();
        commandCount();
        undo();
        undoEveryCommand();
        undoBackFromEnd();
        isReplayed();
        snapshot();
        restore();
        longMatch();
    }

    private static void reason() {
        WicketScorer x = new WicketScorer();
        Check.due("none was kept", 0, x::reason);
        Check.refuses("restore", STATE, x::restore);
        Check.due("nothing to restore", 7, x::reason);
        Check.refuses("isReplayed", STATE, x::isReplayed);
        Check.due("no match for isReplayed", 1, x::reason);
        Check.refuses("undo", STATE, x::undo);
        Check.due("nothing to undo", 7, x::reason);
        Check.refuses("snapshot", STATE, x::snapshot);
        Check.due("no match for snapshot", 1, x::reason);
        x.begin(5, 1, 0);
        Check.refuses("ball", STATE, () -> x.ball(0, 0, false));
        Check.due("nobody bowls", 3, x::reason);
        x.bowl(0);
        Check.due("a success leaves it", 3, x::reason);
        x.undo();
        Check.due("undo leaves it", 3, x::reason);
    }

    private static void commandCount() {
        WicketScorer x = Scorers.begun(5, 1, 0);
        x.bowl(0);
        x.ball(0, 1, false);
        x.wicket(0, 0, false, 0, false);
        x.retire(true, true);
        x.choose(9);
        x.loseOvers(1);
        Scorers.play(x, "..");
        x.declare();
        Check.due("every kind of command", 8, x::commandCount);
        x.snapshot();
        x.isReplayed();
        x.now(0);
        x.storeOvers(0, 0, true);
        Check.refuses("a refused one", STATE, () -> x.ball(0, 0, false));
        Check.due("nothing else is a command", 8, x::commandCount);
        x.undo();
        Check.due("undone ones do not count", 7, x::commandCount);
        x.begin(5, 1, 0);
        Check.due("a new match has none", 0, x::commandCount);
    }

    private static void undo() {
        WicketScorer x = Scorers.begun(20, 1, 0);
        x.bowl(0);
        for (int ball = 0; ball < 5; ball++) {
            x.ball(1, 1, false);
        }
        for (int left = 5; left >= 0; left--) {
            int l = left;
            Check.due("undo leaves " + l, l, x::undo);
        }
        Check.refuses("undo of nothing", STATE, x::undo);
        x.bowl(0);
        for (int ball = 0; ball < 20; ball++) {
            x.ball(1, 0, false);
        }
        for (int left = 7; left >= 0; left--) {
            int l = left;
            Check.due("undo of many leaves " + l, l, x::undo);
        }
        Check.refuses("undo of a ninth", STATE, x::undo);
        Check.due("nothing to undo", 7, x::reason);
        Check.due("8 were undone", 13, x::commandCount);
        Check.due("runs are undone", 12, () -> x.innings(0, 0));
        x.ball(1, 0, false);
        x.ball(1, 0, false);
        Check.due("new commands can be undone", 1, x::undo);
        x.begin(20, 1, 0);
        Check.refuses("not beyond begin", STATE, x::undo);
    }

    private static void undoEveryCommand() {
        WicketScorer x = Scorers.begun(5, 1, 0);
        x.retire(false, true);
        x.undo();
        Check.due("retire is undone", 0, () -> x.now(2));
        Check.due("standing is undone", -2, () -> x.batter(0, 2, 4));
        x.choose(9);
        x.undo();
        Check.due("choose is undone", 2, () -> x.now(6));
        x.bowl(3);
        x.undo();
        Check.due("bowl is undone", -1, () -> x.now(4));
        x.loseOvers(2);
        x.undo();
        Check.due("loseOvers is undone", 5, () -> x.now(7));
        Check.due("resources are undone", 63000, () -> x.now(8));
        x.bowl(3);
        x.choose(9);
        x.wicket(1, 0, false, 0, true);
        x.undo();
        Check.due("the wicket is undone", 0, () -> x.innings(0, 1));
        Check.due("the choice is back", 9, () -> x.now(6));
        Check.refuses("the fall is undone", java.util.NoSuchElementException.class, () -> x.fall(0, 0, 0));
        x.declare();
        x.undo();
        Check.due("declare is undone", 0, () -> x.innings(0, 7));
        Check.due("the choice is back once more", 9, () -> x.now(6));
        Check.refuses("no second innings", IndexOutOfBoundsException.class, () -> x.innings(1, 0));
    }

    private static void undoBackFromEnd() {
        WicketScorer x = Scorers.played(1, 1, "@a.....");
        x.ball(0, 1, false);
        Check.due("second innings", 1, () -> x.now(0));
        x.undo();
        Check.due("first innings again", 0, () -> x.now(0));
        Check.due("its bowler is back", 0, () -> x.now(4));
        Check.due("its balls are back", 5, () -> x.now(5));
        x.ball(0, 0, false);
        Scorers.play(x, "@a");
        x.ball(0, 1, false);
        Check.due("won", 2, x::result);
        x.undo();
        Check.due("not over again", 0, x::result);
        Check.due("a ball is possible", 2, () -> x.ball(0, 2, false));
    }

    private static void isReplayed() {
        WicketScorer x = Scorers.begun(5, 2, 1);
        Check.due("no commands", true, x::isReplayed);
        x.choose(7);
        Scorers.play(x, "@a4W1w2n3b1");
        x.retire(true, true);
        Check.due("some commands", true, x::isReplayed);
        Check.due("the runs stay", 13, () -> x.innings(0, 0));
        Check.due("the striker stays", 1, () -> x.now(2));
        Check.due("the other batter stays", 2, () -> x.now(3));
        x.undo();
        Check.due("after undo", true, x::isReplayed);
        Check.due("the number of commands stays", 2, x::commandCount);
        Check.due("undo is still possible", 1, x::undo);
        for (int innings = 0; innings < 4; innings++) {
            Scorers.play(x, "@b1");
            x.declare();
            Check.due("after innings " + innings, true, x::isReplayed);
        }
        x.snapshot();
        x.begin(1, 1, 0);
        Check.due("a new match", true, x::isReplayed);
        x.restore();
        Check.due("a restored match", true, x::isReplayed);
    }

    private static void snapshot() {
        WicketScorer x = Scorers.begun(5, 1, 0);
        Check.due("snapshot of a new match", 0, x::snapshot);
        Scorers.play(x, "@a12");
        x.ball(0, 1, false);
        Check.due("snapshot of two commands", 2, x::snapshot);
        Check.due("undo after the snapshot", 1, x::undo);
        Check.due("undo again", 0, x::undo);
        Check.due("the snapshot has both", 2, x::restore);
        Check.due("the runs are back", 4, () -> x.innings(0, 0));
        x.declare();
        x.declare();
        Check.due("snapshot of a match that is over", 4, x::snapshot);
        x.begin(9, 2, 1);
        x.restore();
        Check.due("its result", 1, x::result);
    }

    private static void restore() {
        WicketScorer x = Scorers.begun(5, 1, 0);
        Check.refuses("no snapshot", STATE, x::restore);
        Check.due("nothing to restore", 7, x::reason);
        x.bowl(0);
        x.choose(10);
        x.ball(1, 2, false);
        x.snapshot();
        x.ball(0, 1, false);
        x.retire(false, false);
        Check.due("restore", 3, x::restore);
        Check.due("the runs", 3, () -> x.innings(0, 0));
        Check.due("the choice", 10, () -> x.now(6));
        Check.refuses("no undo afterwards", STATE, x::undo);
        Check.due("nothing to undo", 7, x::reason);
        x.ball(0, 4, true);
        Check.due("the number of commands goes on", 4, x::commandCount);
        Check.due("undo of a new command", 0, x::undo);
        Check.due("restore once more", 3, x::restore);
        x.append('4');
        x.append('.');
        x.restore();
        Check.due("restore leaves the buffer", 3, () -> x.append('1'));
        Check.due("the buffer is played", 3, x::play);
    }

    private static void longMatch() {
        WicketScorer x = Scorers.begun(20, 2, 0);
        for (int call = 0; call < 505; call++) {
            x.retire(call % 2 == 0, true);
        }
        Check.due("505 retirements", 505, x::commandCount);
        Check.due("a partnership for each", 1, () -> x.partnership(0, 505, 7));
        Check.refuses("and no more", java.util.NoSuchElementException.class, () -> x.partnership(0, 506, 0));
        Check.due("replayed", true, x::isReplayed);
        x.snapshot();
        Check.due("undo of one", 7, x::undo);
        Check.due("restore of all", 505, x::restore);
        Check.due("the partnership is back", 1, () -> x.partnership(0, 505, 7));
    }
}
