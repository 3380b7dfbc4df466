/** Scorers in states that the tests begin from. */
final class Scorers {
    private Scorers() {
    }

    static WicketScorer begun(int overs, int innings, int first) {
        WicketScorer x = new WicketScorer();
        x.begin(overs, innings, first);
        return x;
    }

    /** A match of 1 innings for each team in which player 0 of team 1 bowls. */
    static WicketScorer bowling(int overs) {
        WicketScorer x = begun(overs, 1, 0);
        x.bowl(0);
        return x;
    }

    static void put(WicketScorer x, String text) {
        for (char sign : text.toCharArray()) {
            x.append(sign);
        }
    }

    static int play(WicketScorer x, String text) {
        put(x, text);
        return x.play();
    }

    static WicketScorer played(int overs, int innings, String text) {
        WicketScorer x = begun(overs, innings, 0);
        play(x, text);
        return x;
    }
}
