/** "Commands." and promises 27 to 32: a test for each sentence that names an edge, with its words above it. */
final class HistoryEdges {
    private HistoryEdges() {
    }

    static void run() {
        reasonNone();
        reasonLast();
        reasonOfOtherExceptions();
        commandsAreCounted();
        refusedAreNoCommands();
        playIsOneCommand();
        sinceBegin();
        latestSeven();
        undoAnswers();
        undoThenMore();
        undoOfNothing();
        undoEachCommand();
        undoLeavesTheRest();
        replayed();
        replayLeavesAll();
        replayRefused();
        snapshotRefused();
        snapshotReplaces();
        snapshotAnswers();
        restoreRefused();
        restoreStays();
        restoreForgetsUndo();
        restoreFromAnotherMatch();
        restoreLeavesTheRest();
        manyCalls();
        manyElements();
    }

    /** Promise 27: "0 if none was kept." */
    private static void reasonNone() {
        WicketScorer x = new WicketScorer();
        Check.due("new", 0, x::reason);
        x.begin(5, 1, 0);
        Scorers.play(x, "@a1W");
        x.undo();
        x.snapshot();
        x.restore();
        Check.due("nothing was refused", 0, x::reason);
    }

    /** Promise 27: "Returns the reason that was kept last."; each of the eight */
    private static void reasonLast() {
        WicketScorer x = new WicketScorer();
        Check.reasoned("no match", 1, x, x::declare);
        x.begin(2, 1, 0);
        Check.reasoned("nobody bowls", 3, x, () -> x.ball(0, 0, false));
        Scorers.play(x, "@a");
        Check.reasoned("somebody bowls", 2, x, () -> x.bowl(1));
        Check.reasoned("not on such a ball", 6, x, () -> x.wicket(0, 1, false, 0, false));
        Scorers.play(x, "......");
        Check.reasoned("not allowed to bowl", 4, x, () -> x.bowl(0));
        Check.reasoned("cannot come in", 5, x, () -> x.choose(0));
        Check.reasoned("nothing to restore", 7, x, x::restore);
        Check.reasoned("cannot be lost", 8, x, () -> x.loseOvers(1));
        Check.due("a success leaves it", 0, () -> x.bowl(1));
        x.begin(2, 1, 0);
        Check.due("begin leaves it", 8, x::reason);
    }

    /** "When a method throws IllegalStateException, the reason is kept": other exceptions keep none */
    private static void reasonOfOtherExceptions() {
        WicketScorer x = new WicketScorer();
        Check.reasoned("no match", 1, x, x::snapshot);
        Check.outcome(() -> x.begin(0, 0, 0));
        Check.outcome(() -> x.bowl(11));
        Check.outcome(() -> x.ball(9, 9, true));
        Check.outcome(x::errorPosition);
        Check.outcome(x::play);
        Check.outcome(() -> x.now(9));
        Check.outcome(() -> x.innings(0, 0));
        Check.outcome(() -> x.storedOvers(0, 0));
        Check.due("it is the same", 1, x::reason);
    }

    /** "the successful calls of bowl, ball, wicket, retire, choose, declare, loseOvers and play" */
    private static void commandsAreCounted() {
        WicketScorer x = Scorers.begun(5, 1, 0);
        Check.due("none", 0, x::commandCount);
        x.loseOvers(1);
        Check.due("loseOvers", 1, x::commandCount);
        x.choose(3);
        Check.due("choose", 2, x::commandCount);
        x.retire(false, true);
        Check.due("retire", 3, x::commandCount);
        x.bowl(0);
        Check.due("bowl", 4, x::commandCount);
        x.ball(0, 0, false);
        Check.due("ball", 5, x::commandCount);
        x.wicket(0, 0, false, 0, false);
        Check.due("wicket", 6, x::commandCount);
        Scorers.play(x, "..");
        Check.due("play", 7, x::commandCount);
        x.declare();
        Check.due("declare", 8, x::commandCount);
        x.storeOvers(0, 0, true);
        x.storeOvers(1, 0, true);
        x.copyOvers(0, 0);
        x.snapshot();
        x.isReplayed();
        x.append('.');
        Check.due("nothing else", 8, x::commandCount);
        x.undo();
        Check.due("less those that were undone", 7, x::commandCount);
    }

    /** The same: a call that is refused is none. */
    private static void refusedAreNoCommands() {
        WicketScorer x = Scorers.begun(2, 1, 0);
        Check.outcome(() -> x.ball(0, 0, false));
        Check.outcome(() -> x.wicket(0, 0, false, 0, false));
        Check.outcome(() -> x.choose(0));
        Check.outcome(() -> x.loseOvers(2));
        Check.outcome(() -> x.bowl(-1));
        Check.outcome(x::play);
        Check.outcome(() -> Scorers.play(x, "@a@b"));
        Check.due("none", 0, x::commandCount);
        Check.reasoned("nothing to undo", 7, x, x::undo);
    }

    /** "play is one command as a whole." */
    private static void playIsOneCommand() {
        WicketScorer x = Scorers.played(1, 1, "@a1.....@b1");
        Check.due("one command", 1, x::commandCount);
        Check.due("undone as a whole", 0, x::undo);
        Check.row("as at the beginning", new int[] {0, 0, 0, 1, -1, 0, 2, 1, 14040}, x::now);
    }

    /** "since the last call of begin" */
    private static void sinceBegin() {
        WicketScorer x = Scorers.played(5, 1, "@a");
        x.ball(0, 1, false);
        Check.outcome(() -> x.begin(21, 1, 0));
        Check.due("a refused begin leaves them", 2, x::commandCount);
        x.begin(5, 1, 0);
        Check.due("none", 0, x::commandCount);
        Check.reasoned("none can be undone", 7, x, x::undo);
    }

    /** "of those that could be undone before it, only the latest 7 still can": 8 with the new one */
    private static void latestSeven() {
        for (int commands : new int[] {1, 7, 8, 9, 10, 50}) {
            WicketScorer x = Scorers.played(5, 1, "@a");
            for (int command = 1; command < commands; command++) {
                x.ball(1, 0, false);
            }
            int can = Math.min(commands, 8);
            for (int left = can - 1; left >= 0; left--) {
                int l = left;
                Check.due("undo of " + commands + " leaves " + l, l, x::undo);
            }
            Check.reasoned("none beyond " + can + " of " + commands, 7, x, x::undo);
            Check.due("commands that stay", commands - can, x::commandCount);
            Check.due("their runs", Math.max(0, commands - can - 1), () -> x.innings(0, 0));
        }
    }

    /** Promise 29: "Returns the number of commands that can still be undone." */
    private static void undoAnswers() {
        WicketScorer x = Scorers.played(5, 1, "@a");
        Check.due("of one", 0, x::undo);
        x.bowl(0);
        x.ball(0, 1, false);
        Check.due("of two", 1, x::undo);
        Check.due("of the one that is left", 0, x::undo);
    }

    /** The same: what was undone makes no room beyond, for those that could not be undone still cannot. */
    private static void undoThenMore() {
        WicketScorer x = Scorers.played(5, 1, "@a");
        for (int ball = 0; ball < 11; ball++) {
            x.ball(1, 0, false);
        }
        for (int left = 7; left >= 5; left--) {
            int l = left;
            Check.due("undo leaves " + l, l, x::undo);
        }
        x.ball(1, 1, false);
        Check.due("6 could be undone; undo of the new one leaves 5", 5, x::undo);
        for (int ball = 0; ball < 3; ball++) {
            x.ball(1, 1, false);
        }
        Check.due("5 and 3 could be", 7, x::undo);
        x.ball(1, 1, false);
        x.ball(1, 1, false);
        Check.due("never more than 8", 7, x::undo);
        Check.due("commands", 12, x::commandCount);
    }

    /** Promise 29: "if there is none (7)" */
    private static void undoOfNothing() {
        WicketScorer x = new WicketScorer();
        Check.reasoned("no match", 7, x, x::undo);
        WicketScorer y = Scorers.begun(5, 1, 0);
        Check.reasoned("no command", 7, y, y::undo);
        y.bowl(0);
        y.undo();
        Check.refuses("no command any more", IllegalStateException.class, y::undo);
        Check.due("the match stays", 0, () -> y.now(0));
    }

    /** Promise 29: "everything of the match is as it was before it.": for each command, also one that ends the match */
    private static void undoEachCommand() {
        for (int command = 0; command < Answers.COMMANDS; command++) {
            WicketScorer x = readyToEnd();
            WicketScorer y = readyToEnd();
            int c = command;
            Check.due("command " + c, true, () -> Answers.command(x, c));
            Check.due("undo of command " + c, 7, x::undo);
            Check.due("as before command " + c, Answers.all(y), () -> Answers.all(x));
            Answers.command(x, c);
            Answers.command(y, c);
            Check.due("once more command " + c, Answers.all(y), () -> Answers.all(x));
        }
    }

    /** The last innings of a match with one run to get, 5 balls of an over, and 10 commands behind it. */
    private static WicketScorer readyToEnd() {
        WicketScorer x = Scorers.played(4, 1, "@a1W4");
        x.retire(true, true);
        x.loseOvers(1);
        x.declare();
        x.bowl(7);
        x.ball(0, 4, true);
        x.choose(6);
        x.retire(false, true);
        x.choose(8);
        Scorers.play(x, "....");
        return x;
    }

    /** A match of two commands, with a snapshot after the first one, and all that does not belong to a match. */
    private static WicketScorer withTheRest() {
        WicketScorer x = Scorers.played(5, 1, "@a1");
        x.snapshot();
        x.ball(0, 2, false);
        x.storeOvers(0, 0, true);
        Check.outcome(() -> Scorers.play(x, "1x"));
        Check.outcome(() -> Scorers.play(x, ".@c"));
        x.append('6');
        return x;
    }

    private static void restIsThere(String after, WicketScorer x) {
        Check.due("the row after " + after, 3.0f, () -> x.storedOvers(0, 0));
        Check.due("the error position after " + after, 1, x::errorPosition);
        Check.due("the element after " + after, 1, x::refused);
        Check.due("the reason after " + after, 2, x::reason);
        Check.due("the buffer after " + after, 2, () -> x.append('6'));
        Check.due("the snapshot after " + after, 1, x::restore);
        Check.due("its runs after " + after, 1, () -> x.innings(0, 0));
    }

    /** "of the match": undo leaves the buffer, the rows, the reason, the positions and the snapshot. */
    private static void undoLeavesTheRest() {
        WicketScorer x = withTheRest();
        x.undo();
        x.undo();
        restIsThere("undo", x);
    }

    /** Promise 30: "Returns whether everything is the same.": after every command, undo and restore */
    private static void replayed() {
        for (int command = 0; command < Answers.COMMANDS; command++) {
            WicketScorer x = readyToEnd();
            int c = command;
            Check.due("before command " + c, true, x::isReplayed);
            Answers.command(x, c);
            Check.due("after command " + c, true, x::isReplayed);
            x.snapshot();
            x.undo();
            Check.due("after its undo " + c, true, x::isReplayed);
            x.restore();
            Check.due("after restore " + c, true, x::isReplayed);
        }
        WicketScorer y = Scorers.begun(5, 2, 1);
        Check.due("no commands", true, y::isReplayed);
        Check.outcome(() -> Scorers.play(y, "@a...@b"));
        Check.due("after a refused text", true, y::isReplayed);
        WicketScorer z = Scorers.played(20, 2, "@a");
        for (int ball = 0; ball < 40; ball++) {
            z.ball(1, 1, false);
        }
        Check.due("more commands than can be undone", true, z::isReplayed);
    }

    /** Promise 30: "The state stays as it is." */
    private static void replayLeavesAll() {
        WicketScorer x = readyToEnd();
        WicketScorer y = readyToEnd();
        x.isReplayed();
        Check.due("all answers", Answers.all(y), () -> Answers.all(x));
        for (int left = 7; left >= 0; left--) {
            x.isReplayed();
            Check.due("undo", y.undo(), x::undo);
            Check.due("all answers after undo", Answers.all(y), () -> Answers.all(x));
        }
    }

    /** Promise 30: "if there is no match (1)"; a match that is over is one */
    private static void replayRefused() {
        WicketScorer x = new WicketScorer();
        Check.reasoned("no match", 1, x, x::isReplayed);
        x.begin(5, 1, 0);
        x.declare();
        x.declare();
        Check.due("a match that is over", true, x::isReplayed);
    }

    /** Promise 31: "if there is no match (1)"; a match that is over is one */
    private static void snapshotRefused() {
        WicketScorer x = new WicketScorer();
        Check.reasoned("no match", 1, x, x::snapshot);
        Check.reasoned("and no snapshot", 7, x, x::restore);
        x.begin(5, 1, 0);
        x.declare();
        x.declare();
        Check.due("a match that is over", 2, x::snapshot);
    }

    /** Promise 31: "It replaces an earlier one." */
    private static void snapshotReplaces() {
        WicketScorer x = Scorers.played(5, 1, "@a1");
        x.snapshot();
        x.ball(0, 2, false);
        x.snapshot();
        x.ball(0, 4, true);
        Check.due("the later one", 2, x::restore);
        Check.due("its runs", 3, () -> x.innings(0, 0));
        x.begin(5, 2, 1);
        Check.due("one without commands", 0, x::snapshot);
        x.bowl(0);
        Check.due("replaces one with commands", 0, x::restore);
        Check.row("its match", new int[] {0, 1, 0, 1, -1, 0, 2, 5, 0}, x::now);
    }

    /** Promise 31: "Returns the number of commands."; it leaves the match and what can be undone */
    private static void snapshotAnswers() {
        WicketScorer x = Scorers.begun(5, 1, 0);
        Check.due("none", 0, x::snapshot);
        Scorers.play(x, "@a12");
        x.ball(0, 1, false);
        Check.due("two", 2, x::snapshot);
        Check.due("they can be undone", 1, x::undo);
        Check.due("one", 1, x::snapshot);
        Check.due("it can be undone", 0, x::undo);
    }

    /** Promise 32: "if there is no snapshot (7)" */
    private static void restoreRefused() {
        WicketScorer x = new WicketScorer();
        Check.reasoned("no match", 7, x, x::restore);
        WicketScorer y = Scorers.played(5, 1, "@a1");
        Check.reasoned("no snapshot", 7, y, y::restore);
        Check.due("the match stays", 1, () -> y.innings(0, 0));
        Check.due("and can be undone", 0, y::undo);
    }

    /** Promise 32: "from the snapshot, which stays available." */
    private static void restoreStays() {
        WicketScorer x = Scorers.played(5, 1, "@a1");
        x.snapshot();
        for (int time = 0; time < 3; time++) {
            x.ball(0, 2, false);
            x.retire(false, false);
            Check.due("restore, time " + time, 1, x::restore);
            Check.row("its match", new int[] {0, 0, 1, 0, 0, 1, 2, 5, 63000}, x::now);
        }
    }

    /** Promise 32: "After that no commands can be undone." */
    private static void restoreForgetsUndo() {
        WicketScorer x = Scorers.played(5, 1, "@a1");
        x.ball(0, 2, false);
        x.snapshot();
        Check.due("before", 1, x::undo);
        x.restore();
        Check.reasoned("none", 7, x, x::undo);
        Check.due("the commands are there", 2, x::commandCount);
        for (int ball = 0; ball < 3; ball++) {
            x.ball(1, 0, false);
        }
        for (int left = 2; left >= 0; left--) {
            int l = left;
            Check.due("the new ones alone", l, x::undo);
        }
        Check.refuses("not those of the snapshot", IllegalStateException.class, x::undo);
    }

    /** Promise 32: "Restores the match and its commands": whatever was carried out since then, in another match as well. */
    private static void restoreFromAnotherMatch() {
        WicketScorer x = Scorers.played(5, 1, "@a1W");
        x.ball(0, 4, true);
        x.snapshot();
        WicketScorer y = Scorers.played(5, 1, "@a1W");
        y.ball(0, 4, true);
        x.begin(7, 2, 1);
        for (int over = 0; over < 3; over++) {
            Scorers.play(x, "@" + (char) ('c' + over) + "1w2n3..b1W.");
        }
        Check.due("commands", 2, x::restore);
        Check.due("the match", Answers.all(y), () -> Answers.all(x));
        x.retire(false, true);
        Check.due("a new command is undone", 0, x::undo);
        Check.due("the match then", Answers.all(y), () -> Answers.all(x));
        Check.due("replayed", true, x::isReplayed);
    }

    /** Promise 32: "the match and its commands": restore leaves all else. */
    private static void restoreLeavesTheRest() {
        WicketScorer x = withTheRest();
        x.restore();
        restIsThere("restore", x);
    }

    /** "An object is used for at most 512 calls after it has been made" */
    private static void manyCalls() {
        WicketScorer x = Scorers.played(20, 1, "@a");
        for (int call = 4; call < 508; call++) {
            x.ball(1, 0, false);
        }
        Check.due("the command of the call 509", 1, () -> x.ball(1, 0, false));
        Check.due("runs", 505, () -> x.innings(0, 0));
        Check.due("undo", 7, x::undo);
        Check.due("commands", 505, x::commandCount);
    }

    /** The same with texts: nearly each call brings an element. */
    private static void manyElements() {
        WicketScorer x = Scorers.begun(20, 1, 0);
        x.bowl(0);
        for (int text = 0; text < 8; text++) {
            Check.due("60 elements", 60, () -> Scorers.play(x, "w".repeat(60)));
        }
        Check.due("runs of 490 calls", 480, () -> x.innings(0, 0));
        Check.due("replayed", true, x::isReplayed);
        Check.due("commands", 9, x::snapshot);
        Check.due("undo", 7, x::undo);
        Check.due("runs then", 420, () -> x.innings(0, 0));
        Check.due("restore", 9, x::restore);
        Check.due("runs of the snapshot", 480, () -> x.innings(0, 0));
    }
}
