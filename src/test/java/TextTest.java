/** Promises 10 to 13: the text, its elements and its error position. */
final class TextTest {
    private static final Class<?> ARGUMENT = IllegalArgumentException.class;
    private static final Class<?> UNSUPPORTED = UnsupportedOperationException.class;

    private TextTest() {
    }

    static void run() {
        append();
        malformed();
        elements();
        boundaries();
        wickets();
        bowlers();
        refused();
        oneCommand();
        acrossInnings();
    }

    private static void append() {
        WicketScorer x = new WicketScorer();
        for (int code : new int[] {0, 31, 127, 200, 65535}) {
            Check.refuses("append of code " + code, ARGUMENT, () -> x.append((char) code));
        }
        Check.due("append of code 32", 1, () -> x.append(' '));
        Check.due("append of code 126", 2, () -> x.append('~'));
        for (int length = 3; length <= 60; length++) {
            int l = length;
            Check.due("append makes length " + l, l, () -> x.append('.'));
        }
        Check.refuses("append to a full buffer", UNSUPPORTED, () -> x.append('.'));
        Check.refuses("wrong character for a full buffer", ARGUMENT, () -> x.append((char) 31));
        Check.refuses("play malformed", ARGUMENT, x::play);
        Check.due("the buffer is empty afterwards", 1, () -> x.append('.'));
    }

    private static void malformed() {
        Object[][] texts = {{"", 0}, {" ", 0}, {"0", 0}, {"7", 0}, {"a", 0}, {"1 ", 1}, {".x", 1}, {"b", 1}, {"l", 1},
            {"@", 1}, {"b0", 1}, {"b5", 1}, {"l5", 1}, {"@l", 1}, {"@A", 1}, {"@`", 1}, {"w0", 1}, {"n0", 1},
            {"n7", 1}, {"w7", 1}, {"bb1", 1}, {"1.b", 3}, {"w1w4n6n9", 7}, {"@kW@", 4}, {"..1W,", 4}, {"b1b", 3},
            {"r", 0}, {"c", 0}, {"B1", 0}, {"N", 0}, {"b1l4@a@k@", 9}, {"5-", 1}, {"wb", 2}, {"n1@", 3}};
        WicketScorer x = Scorers.begun(20, 1, 0);
        for (Object[] text : texts) {
            Check.refuses("play of '" + text[0] + "'", ARGUMENT, () -> Scorers.play(x, (String) text[0]));
            Check.due("error position of '" + text[0] + "'", text[1], x::errorPosition);
        }
        Check.due("malformed texts are no commands", 0, x::commandCount);
        Check.due("nor give reasons", 0, x::reason);
        Scorers.play(x, "@a.");
        Check.due("a text that is fine keeps the error position", 3, x::errorPosition);
        Check.refuses("refused by no text", java.util.NoSuchElementException.class, x::refused);
        StringBuilder longest = new StringBuilder();
        for (int i = 0; i < 59; i++) {
            longest.append('.');
        }
        Check.refuses("60 characters", ARGUMENT, () -> Scorers.play(x, longest + "@"));
        Check.due("the length of the text", 60, x::errorPosition);
    }

    private static void elements() {
        Object[][] texts = {{".", 1, 0, 1}, {"1", 1, 1, 1}, {"2", 1, 2, 1}, {"3", 1, 3, 1}, {"4", 1, 4, 1},
            {"5", 1, 5, 1}, {"6", 1, 6, 1}, {"w", 1, 1, 0}, {"w1", 1, 2, 0}, {"w4", 1, 5, 0}, {"w5", 2, 6, 1},
            {"w6", 2, 7, 1}, {"w44", 2, 9, 1}, {"ww", 2, 2, 0}, {"n", 1, 1, 0}, {"n1", 1, 2, 0}, {"n4", 1, 5, 0},
            {"n5", 1, 6, 0}, {"n6", 1, 7, 0}, {"n66", 2, 13, 1}, {"nw", 2, 2, 0}, {"b1", 1, 1, 1}, {"b4", 1, 4, 1},
            {"b12", 2, 3, 2}, {"l1", 1, 1, 1}, {"l4", 1, 4, 1}, {"w.n.", 4, 2, 2}};
        WicketScorer x = new WicketScorer();
        for (Object[] text : texts) {
            x.begin(20, 1, 0);
            x.bowl(0);
            Check.due("elements of '" + text[0] + "'", text[1], () -> Scorers.play(x, (String) text[0]));
            Check.due("runs of '" + text[0] + "'", text[2], () -> x.innings(0, 0));
            Check.due("legal balls of '" + text[0] + "'", text[3], () -> x.innings(0, 2));
        }
        x.begin(20, 1, 0);
        Scorers.play(x, "@aw2n3b4l1");
        Check.due("wides of a text", 3, () -> x.innings(0, 3));
        Check.due("no-balls of a text", 1, () -> x.innings(0, 4));
        Check.due("byes of a text", 4, () -> x.innings(0, 5));
        Check.due("leg byes of a text", 1, () -> x.innings(0, 6));
    }

    private static void boundaries() {
        WicketScorer x = Scorers.played(20, 1, "@a46n4n6");
        Check.due("fours", 2, () -> x.batter(0, 0, 2));
        Check.due("sixes", 2, () -> x.batter(0, 0, 3));
        WicketScorer y = Scorers.played(20, 1, "@a2n2b4l4w4");
        Check.due("no fours", 0, () -> y.batter(0, 0, 2));
        Check.due("no sixes", 0, () -> y.batter(0, 0, 3));
        WicketScorer z = Scorers.played(20, 1, "@a.wn");
        Check.due("no fours without runs", 0, () -> z.batter(0, 0, 2));
        Check.due("no sixes without runs", 0, () -> z.batter(0, 0, 3));
    }

    private static void wickets() {
        Object[][] ways = {{"W", 0, 3}, {"C", 1, 3}, {"L", 2, 3}, {"R", 5, -1}};
        for (Object[] way : ways) {
            WicketScorer x = Scorers.played(20, 1, "@d" + way[0]);
            Check.due("striker is out by " + way[0], way[1], () -> x.batter(0, 0, 4));
            Check.due("taken by " + way[0], way[2], () -> x.batter(0, 0, 5));
            Check.due("no crossing with " + way[0], 2, () -> x.now(2));
            Check.due("legal ball with " + way[0], 1, () -> x.innings(0, 2));
            Check.due("no runs with " + way[0], 0, () -> x.innings(0, 0));
        }
    }

    private static void bowlers() {
        WicketScorer x = new WicketScorer();
        for (int player = 0; player <= 10; player++) {
            int p = player;
            x.begin(20, 1, 0);
            Scorers.play(x, "@" + (char) ('a' + p));
            Check.due("bowler " + p, p, () -> x.now(4));
        }
    }

    private static void refused() {
        WicketScorer x = new WicketScorer();
        Check.refuses("malformed without a match", ARGUMENT, () -> Scorers.play(x, "1x"));
        Check.refuses("play without a match", UNSUPPORTED, () -> Scorers.play(x, "1"));
        Check.due("refused without a match", 0, x::refused);
        Check.due("reason without a match", 1, x::reason);
        x.begin(2, 1, 0);
        Check.refuses("somebody bowls", UNSUPPORTED, () -> Scorers.play(x, "@a.4W@b"));
        Check.due("element of somebody", 4, x::refused);
        Check.due("reason of somebody", 2, x::reason);
        Check.due("nobody bowls then", -1, () -> x.now(4));
        Check.due("none is carried out", 0, () -> x.innings(0, 2));
        Check.due("no wicket", 0, () -> x.innings(0, 1));
        Check.due("nobody came in", -2, () -> x.batter(0, 2, 4));
        Check.due("no command", 0, x::commandCount);
        Check.due("the buffer is empty", 1, () -> x.append('@'));
        x.append('b');
        Check.due("the buffer is played", 1, x::play);
        Check.refuses("nobody bowls", UNSUPPORTED, () -> Scorers.play(x, "w1w2n......."));
        Check.due("element of nobody", 9, x::refused);
        Check.due("reason of nobody", 3, x::reason);
        Check.due("the bowler is still there", 1, () -> x.now(4));
        Check.refuses("not two overs", UNSUPPORTED, () -> Scorers.play(x, "......@b"));
        Check.due("reason of two overs", 4, x::reason);
        Check.due("error position stays", 1, x::errorPosition);
        Check.due("undo of what was played", 0, x::undo);
    }

    private static void oneCommand() {
        WicketScorer x = Scorers.begun(20, 1, 0);
        Scorers.play(x, "@a12W4");
        x.ball(0, 1, false);
        Check.due("play is one command", 2, x::commandCount);
        Check.due("undo of the ball", 1, x::undo);
        Check.due("runs of the text", 7, () -> x.innings(0, 0));
        x.append('.');
        Check.due("undo of the text", 0, x::undo);
        Check.due("nothing was bowled", 0, () -> x.innings(0, 2));
        Check.due("nobody bowls", -1, () -> x.now(4));
        Check.due("undo leaves the buffer", 2, () -> x.append('.'));
    }

    private static void acrossInnings() {
        WicketScorer x = Scorers.begun(1, 1, 0);
        Check.due("a text with two innings", 13, () -> Scorers.play(x, "@a......@b....1"));
        Check.refuses("a text after the match", UNSUPPORTED, () -> Scorers.play(x, "."));
        Check.due("reason after the match", 1, x::reason);
        x.undo();
        Check.refuses("a text beyond the match", UNSUPPORTED, () -> Scorers.play(x, "@a......@b1."));
        Check.due("element beyond the match", 9, x::refused);
        Check.due("reason beyond the match", 1, x::reason);
        Check.due("first innings again", 0, () -> x.now(0));
        Check.refuses("no second innings", IndexOutOfBoundsException.class, () -> x.innings(1, 0));
    }
}
