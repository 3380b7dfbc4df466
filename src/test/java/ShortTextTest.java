import java.util.regex.Matcher;
import java.util.regex.Pattern;

/**
 * "Text." and promises 11 to 13 for every text of up to three signs, judged by the grammar alone: the error
 * position is found by trying whether a text can go on, not by parsing.
 */
final class ShortTextTest {
    private static final String SIGNS = ".0145678wnblWCLR@ajkA~ ";
    private static final String ELEMENT = "\\.|[1-6]|w[1-4]?|n[1-6]?|[bl][1-4]|[WCLR]|@[a-k]";
    private static final Pattern ONE = Pattern.compile(ELEMENT);
    private static final Pattern TEXT = Pattern.compile("(?:" + ELEMENT + ")+");

    private ShortTextTest() {
    }

    static void run() {
        textsFrom("", 3);
    }

    private static void textsFrom(String start, int longer) {
        answers(start);
        for (int at = 0; longer > 0 && at < SIGNS.length(); at++) {
            textsFrom(start + SIGNS.charAt(at), longer - 1);
        }
    }

    /** Somebody bowls, so that "@" is what is refused, and nothing else is. */
    private static void answers(String text) {
        WicketScorer x = Scorers.bowling(20);
        boolean isText = TEXT.matcher(text).matches();
        int bowl = isText ? firstBowl(text) : -1;
        Object play = !isText ? "IllegalArgumentException"
                : bowl >= 0 ? "UnsupportedOperationException" : (Object) elements(text);
        Check.due("play of '" + text + "'", play, () -> Scorers.play(x, text));
        Check.due("errorPosition of '" + text + "'",
                isText ? (Object) "NoSuchElementException" : errorPosition(text), x::errorPosition);
        Check.due("refused of '" + text + "'", bowl < 0 ? (Object) "NoSuchElementException" : bowl, x::refused);
        Check.due("commands after '" + text + "'", isText && bowl < 0 ? 2 : 1, x::commandCount);
    }

    private static int elements(String text) {
        return (int) ONE.matcher(text).results().count();
    }

    /** The number of the first element that chooses a bowler, or -1. */
    private static int firstBowl(String text) {
        Matcher elements = ONE.matcher(text);
        for (int number = 0; elements.find(); number++) {
            if (elements.group().charAt(0) == '@') {
                return number;
            }
        }
        return -1;
    }

    /** "the lowest index of a character with which, after the characters before it, no such text can go on" */
    private static int errorPosition(String text) {
        for (int at = 0; at < text.length(); at++) {
            if (!canGoOn(text.substring(0, at + 1))) {
                return at;
            }
        }
        return text.length();
    }

    /** An element has two signs at most: one more sign completes what can be completed. */
    private static boolean canGoOn(String start) {
        return TEXT.matcher(start).matches() || TEXT.matcher(start + "1").matches()
                || TEXT.matcher(start + "a").matches();
    }
}
