/** The calls that README.md shows, with the answers that it tells. */
final class ReadmeTest {
    private ReadmeTest() {
    }

    static void run() {
        WicketScorer scorer = new WicketScorer();
        Check.due("README: begin", 1, () -> scorer.begin(5, 1, 0));
        Check.due("README: bowl", 0, () -> scorer.bowl(3));
        Check.due("README: ball", 4, () -> scorer.ball(0, 4, true));
        Check.due("README: wicket", 1, () -> scorer.wicket(1, 0, false, 0, true));
        for (char sign : "1w2.6".toCharArray()) {
            scorer.append(sign);
        }
        Check.due("README: play", 4, scorer::play);
        Check.due("README: innings", 14, () -> scorer.innings(0, 0));
        Check.due("README: striker", 2, () -> scorer.now(2));
        Check.due("README: fall", 4, () -> scorer.fall(0, 0, 1));
        Check.refuses("README: bowl once more", IllegalStateException.class, () -> scorer.bowl(4));
        Check.due("README: reason", 2, scorer::reason);
        Check.due("README: undo", 3, scorer::undo);
        Check.due("README: innings then", 4, () -> scorer.innings(0, 0));
        Check.due("README: snapshot", 3, scorer::snapshot);
        Check.due("README: declare", 4, scorer::declare);
        Check.due("README: needed", 5, () -> scorer.needed(true));
        Check.due("README: restore", 3, scorer::restore);
        Check.due("README: result", 0, scorer::result);
    }
}
