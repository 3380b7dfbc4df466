import java.util.regex.Pattern;

/** "Text." and promises 10 to 13: a test for each sentence that names an edge, with its words above it. */
final class TextEdges {
    private static final Class<?> ARGUMENT = IllegalArgumentException.class;
    private static final Class<?> NONE = java.util.NoSuchElementException.class;
    private static final Class<?> UNSUPPORTED = UnsupportedOperationException.class;
    private static final Pattern ELEMENT = Pattern.compile("[.1-6wnWCLR]|w[1-4]|n[1-6]|[bl][1-4]|@[a-k]");

    private TextEdges() {
    }

    static void run() {
        codes();
        sixtyCharacters();
        appendExceptionsInOrder();
        oneOrMore();
        everySign();
        everyPair();
        bounds();
        greedyDigits();
        errorAtLength();
        errorInTheMiddle();
        errorPositionKept();
        emptyAfterwards();
        sixtyElements();
        inTheirOrder();
        asByCalls();
        asByWicketsAndBowl();
        refusedKept();
        refusedByEachReason();
        malformedBeforeRefused();
        noneIsCarriedOut();
    }

    /** Promise 10: "if the code is not from 32 to 126" */
    private static void codes() {
        for (int code : new int[] {0, 9, 10, 31, 127, 128, 255, 256, 32767, 32768, 65535}) {
            WicketScorer x = new WicketScorer();
            Check.refuses("no append of code " + code, ARGUMENT, () -> x.append((char) code));
            Check.due("the buffer is empty after code " + code, 1, () -> x.append('.'));
        }
        WicketScorer y = new WicketScorer();
        for (int code = 32; code <= 91; code++) {
            int c = code;
            Check.due("append of code " + c, c - 31, () -> y.append((char) c));
        }
        WicketScorer z = new WicketScorer();
        for (int code = 92; code <= 126; code++) {
            int c = code;
            Check.due("append of code " + c, c - 91, () -> z.append((char) c));
        }
    }

    /** "The input buffer holds up to 60 characters"; "if the buffer has 60 characters" */
    private static void sixtyCharacters() {
        WicketScorer x = Scorers.begun(20, 1, 0);
        Scorers.put(x, "@a" + "w".repeat(57));
        Check.due("the 60th", 60, () -> x.append('w'));
        Check.refuses("the 61st", UNSUPPORTED, () -> x.append('w'));
        Check.refuses("and once more", UNSUPPORTED, () -> x.append('w'));
        Check.due("59 elements", 59, x::play);
        Check.due("58 wides", 58, () -> x.innings(0, 0));
    }

    /** Promise 10: IllegalArgumentException comes before UnsupportedOperationException. */
    private static void appendExceptionsInOrder() {
        WicketScorer x = new WicketScorer();
        Scorers.put(x, ".".repeat(60));
        for (char code : new char[] {31, 127}) {
            Check.refuses("a wrong code for a full buffer", ARGUMENT, () -> x.append(code));
        }
        for (char code : new char[] {32, 126}) {
            Check.refuses("a code in range for a full buffer", UNSUPPORTED, () -> x.append(code));
        }
        Check.due("no reason", 0, x::reason);
    }

    /** "A text consists of one or more elements": the empty text is malformed, and has the length 0. */
    private static void oneOrMore() {
        WicketScorer x = Scorers.played(5, 1, "@a");
        Check.refuses("the empty text", ARGUMENT, x::play);
        Check.due("its error position", 0, x::errorPosition);
        Check.due("one element", 1, () -> Scorers.play(x, "."));
        Check.refuses("the empty text once more", ARGUMENT, x::play);
        Check.due("two commands", 2, x::commandCount);
    }

    /** Every character that the buffer can hold, alone: an element, or wrong at 0, or wrong after it. */
    private static void everySign() {
        for (char sign = 32; sign <= 126; sign++) {
            WicketScorer x = Scorers.played(5, 1, "@d");
            String text = String.valueOf(sign);
            boolean isElement = ELEMENT.matcher(text).matches();
            Check.due("play of " + text, isElement ? (Object) 1 : "IllegalArgumentException",
                    () -> Scorers.play(x, text));
            Check.due("errorPosition of " + text,
                    isElement ? (Object) "NoSuchElementException" : "bl@".contains(text) ? 1 : 0, x::errorPosition);
        }
    }

    /** Every element of one sign, and the signs that need a second one, with every character after it. */
    private static void everyPair() {
        for (char first : ".3wnblWCLR@".toCharArray()) {
            for (char second = 32; second <= 126; second++) {
                String text = "" + first + second;
                WicketScorer x = Scorers.begun(5, 1, 0);
                if (first != '@') {
                    Scorers.play(x, "@d");
                }
                Check.due("elements of " + text, pairOutcome(text), () -> Scorers.play(x, text));
                Object position = pairOutcome(text).equals("IllegalArgumentException") ? pairError(text)
                        : "NoSuchElementException";
                Check.due("errorPosition of " + text, position, x::errorPosition);
            }
        }
    }

    /** A second "@" with a letter cannot stand in two signs, so that nothing here is refused. */
    private static Object pairOutcome(String text) {
        if (ELEMENT.matcher(text).matches()) {
            return 1;
        }
        boolean two = ELEMENT.matcher(text.substring(0, 1)).matches() && ELEMENT.matcher(text.substring(1)).matches();
        return two ? (Object) 2 : "IllegalArgumentException";
    }

    private static int pairError(String text) {
        boolean needsMore = "bl@".indexOf(text.charAt(0)) < 0 && "bl@".indexOf(text.charAt(1)) >= 0;
        return needsMore ? 2 : 1;
    }

    /** "a digit from 1 to 6", "from 1 to 4 after "w" and from 1 to 6 after "n"", "b" and "l" from 1 to 4: least and greatest */
    private static void bounds() {
        Object[][] texts = {{"1", 1, 0, 0, 0}, {"6", 6, 0, 0, 0}, {"w1", 2, 2, 0, 0}, {"w4", 5, 5, 0, 0},
            {"n1", 2, 0, 0, 0}, {"n6", 7, 0, 0, 0}, {"b1", 1, 0, 1, 0}, {"b4", 4, 0, 4, 0}, {"l1", 1, 0, 0, 1},
            {"l4", 4, 0, 0, 4}, {".", 0, 0, 0, 0}, {"w", 1, 1, 0, 0}, {"n", 1, 0, 0, 0}};
        for (Object[] text : texts) {
            WicketScorer x = Scorers.played(5, 1, "@d" + text[0]);
            Check.due("runs of " + text[0], text[1], () -> x.innings(0, 0));
            Check.due("wides of " + text[0], text[2], () -> x.innings(0, 3));
            Check.due("byes of " + text[0], text[3], () -> x.innings(0, 5));
            Check.due("leg byes of " + text[0], text[4], () -> x.innings(0, 6));
        }
        for (String wrong : new String[] {"0", "7", "w0", "w7", "n0", "n7", "b0", "b5", "l0", "l5", "@`", "@l"}) {
            WicketScorer x = Scorers.begun(5, 1, 0);
            Check.refuses("no text: " + wrong, ARGUMENT, () -> Scorers.play(x, wrong));
        }
        for (String letter : new String[] {"a", "k"}) {
            WicketScorer x = Scorers.played(5, 1, "@" + letter);
            Check.due("bowler " + letter, letter.equals("a") ? 0 : 10, () -> x.now(4));
        }
    }

    /** "any other digit from 1 to 6 after "w" is a hit"; a second digit never belongs to the one before it. */
    private static void greedyDigits() {
        Object[][] texts = {{"w4", 1, 5, 0, 0}, {"w5", 2, 6, 5, 0}, {"w6", 2, 7, 6, 1}, {"w46", 2, 11, 6, 1},
            {"n6", 1, 7, 6, 1}, {"n66", 2, 13, 12, 2}, {"n5", 1, 6, 5, 0}, {"n56", 2, 12, 11, 1},
            {"b46", 2, 10, 6, 1}, {"l46", 2, 10, 6, 1}, {"66", 2, 12, 12, 2}};
        for (Object[] text : texts) {
            WicketScorer x = Scorers.played(5, 1, "@d");
            Check.due("elements of " + text[0], text[1], () -> Scorers.play(x, (String) text[0]));
            Check.due("runs of " + text[0], text[2], () -> x.innings(0, 0));
            Check.due("runs of both batters of " + text[0], text[3], () -> x.batter(0, 0, 0) + x.batter(0, 1, 0));
            Check.due("sixes of " + text[0], text[4], () -> x.batter(0, 0, 3) + x.batter(0, 1, 3));
        }
    }

    /** "or the length of the text if there is no such index" */
    private static void errorAtLength() {
        for (String text : new String[] {"", "b", "l", "@", ".b", "w@", "n4l", "@aw5b"}) {
            WicketScorer x = new WicketScorer();
            Check.refuses("play of '" + text + "'", ARGUMENT, () -> Scorers.play(x, text));
            Check.due("errorPosition of '" + text + "'", text.length(), x::errorPosition);
        }
        WicketScorer y = new WicketScorer();
        Check.refuses("play of 60 characters", ARGUMENT, () -> Scorers.play(y, ".".repeat(59) + "b"));
        Check.due("errorPosition of 60 characters", 60, y::errorPosition);
        Check.refuses("play with the last one wrong", ARGUMENT, () -> Scorers.play(y, ".".repeat(59) + "x"));
        Check.due("errorPosition of the last one", 59, y::errorPosition);
    }

    /** "the lowest index of a character with which, after the characters before it, no such text can go on" */
    private static void errorInTheMiddle() {
        Object[][] texts = {{"x.", 0}, {".x.x", 1}, {"bb", 1}, {"b5b5", 1}, {"@@a", 1}, {"w5x", 2}, {"n7", 1},
            {"w44 ", 3}, {"@kWCLR0", 6}, {"@a.@l.", 4}, {"l4b4l0", 5}, {"W1w", -1}, {"n1n7", 3}};
        for (Object[] text : texts) {
            WicketScorer x = Scorers.played(5, 1, "@d");
            int at = (int) text[1];
            Check.due("play of " + text[0], at < 0 ? (Object) 3 : "IllegalArgumentException",
                    () -> Scorers.play(x, (String) text[0]));
            Check.due("errorPosition of " + text[0], at < 0 ? (Object) "NoSuchElementException" : at,
                    x::errorPosition);
        }
    }

    /** Promise 12: "Returns the error position of the last text that was malformed."; "if there was none" */
    private static void errorPositionKept() {
        WicketScorer x = Scorers.begun(5, 1, 0);
        Check.refuses("none at first", NONE, x::errorPosition);
        Scorers.play(x, "@a.");
        Check.refuses("none after a text that is fine", NONE, x::errorPosition);
        Check.refuses("a refused text", UNSUPPORTED, () -> Scorers.play(x, "@b"));
        Check.refuses("none after a text that is refused", NONE, x::errorPosition);
        Check.refuses("a malformed text", ARGUMENT, () -> Scorers.play(x, "..x"));
        Scorers.play(x, ".");
        Check.due("it stays", 2, x::errorPosition);
        x.undo();
        Check.due("undo leaves it", 2, x::errorPosition);
        x.snapshot();
        Check.refuses("another malformed text", ARGUMENT, () -> Scorers.play(x, "x"));
        x.restore();
        Check.due("the last one counts", 0, x::errorPosition);
    }

    /** Promise 11: "The buffer is empty afterwards in any case." */
    private static void emptyAfterwards() {
        WicketScorer x = new WicketScorer();
        for (String text : new String[] {"x", "1", "@a", "@b", "."}) {
            x.begin(5, 1, 0);
            Check.outcome(() -> Scorers.play(x, text));
            Check.refuses("the buffer is empty after " + text, ARGUMENT, x::play);
        }
    }

    /** Promise 11: "Returns the number of elements.": up to 60. */
    private static void sixtyElements() {
        WicketScorer x = Scorers.played(20, 1, "@a");
        Check.due("60 elements", 60, () -> Scorers.play(x, "w".repeat(60)));
        Check.due("60 runs", 60, () -> x.innings(0, 0));
        Check.due("30 elements", 30, () -> Scorers.play(x, "n6".repeat(30)));
        Check.due("runs of both", 60 + 210, () -> x.innings(0, 0));
        Check.due("three commands", 3, x::commandCount);
        Check.due("undone as a whole", 2, x::undo);
        Check.due("runs then", 60, () -> x.innings(0, 0));
    }

    /** Promise 11: "Carries out the elements of the text in the input buffer, in their order" */
    private static void inTheirOrder() {
        WicketScorer x = Scorers.played(5, 1, "@a1W2");
        Check.due("the one who came to strike is out", 0, () -> x.batter(0, 1, 4));
        Check.due("the next one has the runs", 2, () -> x.batter(0, 2, 0));
        Check.due("the runs at the wicket", 1, () -> x.fall(0, 0, 1));
        WicketScorer y = Scorers.played(1, 1, "@a4.....@c6");
        Check.due("across the innings", 6, () -> y.innings(1, 0));
        Check.due("to the end of the match", 2, y::result);
    }

    /** Promise 11: "as by ... ball": what an element does is what this call does; which are boundaries */
    private static void asByCalls() {
        for (int runs = 0; runs <= 6; runs++) {
            boolean boundary = runs == 4 || runs == 6;
            String digit = runs == 0 ? "" : String.valueOf(runs);
            sameAsBall(runs == 0 ? "." : digit, 0, runs, boundary);
            sameAsBall("n" + digit, 2, runs, boundary);
            if (runs <= 4) {
                sameAsBall("w" + digit, 1, runs, false);
            }
            if (runs >= 1 && runs <= 4) {
                sameAsBall("b" + digit, 3, runs, false);
                sameAsBall("l" + digit, 4, runs, false);
            }
        }
    }

    private static void sameAsBall(String text, int kind, int runs, boolean boundary) {
        WicketScorer x = Scorers.played(5, 1, "@d");
        WicketScorer y = Scorers.played(5, 1, "@d");
        Check.due("one element " + text, 1, () -> Scorers.play(x, text));
        y.ball(kind, runs, boundary);
        Check.due("what is as by ball: " + text, Answers.all(y), () -> Answers.all(x));
    }

    /** "a wicket, bowled, caught without crossing, leg before, and run out of the striker, without runs or crossing" */
    private static void asByWicketsAndBowl() {
        int[] ways = {0, 1, 2, 5};
        for (int sign = 0; sign < ways.length; sign++) {
            WicketScorer x = Scorers.played(5, 1, "@d1");
            WicketScorer y = Scorers.played(5, 1, "@d1");
            String text = "WCLR".substring(sign, sign + 1);
            Check.due("one element " + text, 1, () -> Scorers.play(x, text));
            y.wicket(ways[sign], 0, false, 0, false);
            Check.due("what is as by wicket: " + text, Answers.all(y), () -> Answers.all(x));
        }
        for (int player = 0; player <= 10; player++) {
            WicketScorer x = Scorers.begun(5, 1, 0);
            WicketScorer y = Scorers.begun(5, 1, 0);
            String text = "@" + (char) ('a' + player);
            Check.due("one element " + text, 1, () -> Scorers.play(x, text));
            y.bowl(player);
            Check.due("what is as by bowl: " + text, Answers.all(y), () -> Answers.all(x));
        }
    }

    /** Promise 13: "Returns which element of a text was refused last."; "if there was none" */
    private static void refusedKept() {
        WicketScorer x = Scorers.begun(5, 1, 0);
        Check.refuses("none at first", NONE, x::refused);
        Check.refuses("a call that is refused is no element", IllegalStateException.class, () -> x.ball(0, 0, false));
        Check.refuses("a malformed text", ARGUMENT, () -> Scorers.play(x, "x"));
        Check.refuses("none yet", NONE, x::refused);
        Check.refuses("the first element", UNSUPPORTED, () -> Scorers.play(x, "."));
        Check.due("it is 0", 0, x::refused);
        Check.refuses("elements, not characters", UNSUPPORTED, () -> Scorers.play(x, "@aw1n2b3.@a"));
        Check.due("it is 5", 5, x::refused);
        Scorers.play(x, "@a.");
        Check.due("it stays", 5, x::refused);
        x.undo();
        Check.due("undo leaves it", 5, x::refused);
        Scorers.play(x, "@a");
        Check.refuses("the last of 60", UNSUPPORTED, () -> Scorers.play(x, "w".repeat(53) + "......."));
        Check.due("it is 59", 59, x::refused);
    }

    /** Promise 11: "if an element would throw IllegalStateException, the reason of which is kept" */
    private static void refusedByEachReason() {
        Object[][] texts = {{3, "w", "......@a", 6, 4}, {1, "......@b......", ".", 0, 1}, {1, "w", "@b", 0, 2},
            {1, "w", ".@a", 1, 2}, {2, "......", "W", 0, 3}, {2, "w", "......L", 6, 3},
            {1, "......@b.", ".....b1", 5, 1}};
        for (Object[] text : texts) {
            WicketScorer x = Scorers.played((int) text[0], 1, "@a" + text[1]);
            Check.refuses("play of " + text[2], UNSUPPORTED, () -> Scorers.play(x, (String) text[2]));
            Check.due("element of " + text[2], text[3], x::refused);
            Check.due("reason of " + text[2], text[4], x::reason);
        }
        WicketScorer y = new WicketScorer();
        Check.refuses("without a match", UNSUPPORTED, () -> Scorers.play(y, "@a"));
        Check.due("reason without a match", 1, y::reason);
        Check.due("element without a match", 0, y::refused);
    }

    /** Promise 11: IllegalArgumentException comes before UnsupportedOperationException. */
    private static void malformedBeforeRefused() {
        WicketScorer x = Scorers.begun(5, 1, 0);
        Check.refuses("malformed, and its first element would be refused", ARGUMENT, () -> Scorers.play(x, "..x"));
        Check.refuses("no element", NONE, x::refused);
        Check.due("no reason", 0, x::reason);
    }

    /** Promise 11: "and none is carried out" */
    private static void noneIsCarriedOut() {
        WicketScorer x = Scorers.begun(1, 1, 0);
        x.bowl(0);
        x.choose(9);
        x.ball(0, 1, false);
        Check.refuses("an innings and more", UNSUPPORTED, () -> Scorers.play(x, "W4...@b6.@c"));
        Check.row("now", new int[] {0, 0, 1, 0, 0, 1, 9, 1, 14040}, x::now);
        Check.row("innings", new int[] {1, 0, 1, 0, 0, 0, 0, 0}, what -> x.innings(0, what));
        Check.row("bowler", new int[] {1, 1, 0, 0, 0, 0, 0}, what -> x.bowler(0, 0, what));
        Check.row("batter 9", new int[] {0, 0, 0, 0, -2, -1}, what -> x.batter(0, 9, what));
        Check.refuses("no wicket", NONE, () -> x.fall(0, 0, 0));
        Check.refuses("no partnership", NONE, () -> x.partnership(0, 1, 0));
        Check.refuses("no second innings", IndexOutOfBoundsException.class, () -> x.innings(1, 0));
        Check.due("no command", 3, x::commandCount);
        Check.due("undo takes the ball back", 2, x::undo);
        Check.due("as before it", 0, () -> x.innings(0, 2));
    }
}
