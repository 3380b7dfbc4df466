/** Runs every test of the project; ends with exit code 1 if an answer was not the one that is due. */
public final class AllTests {
    private AllTests() {
    }

    public static void main(String[] args) {
        MatchTest.run();
        TextTest.run();
        StateTest.run();
        RowTest.run();
        HistoryTest.run();
        MatchEdges.run();
        BallEdges.run();
        WicketEdges.run();
        BatterEdges.run();
        OverEdges.run();
        TargetEdges.run();
        TextEdges.run();
        CardEdges.run();
        RowEdges.run();
        HistoryEdges.run();
        UnchangedTest.run();
        ShortTextTest.run();
        ReadmeTest.run();
        TamperTest.run();
        OracleTest.run();
        AnyCallTest.run();
        System.out.println(Check.passed() + " passed, " + Check.failed() + " failed");
        if (Check.failed() > 0) {
            System.exit(1);
        }
    }
}
