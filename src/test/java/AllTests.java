/** Runs every test of the project, in the project's folder; its argument is the path of ToldWays.java. */
public final class AllTests {
    private AllTests() {
    }

    public static void main(String[] args) throws java.io.IOException {
        Tally tally = new Tally();
        LandTests.run(tally);
        AnswerTests.run(tally);
        StrangerTests.run(tally);
        JournalTests.run(tally);
        ImageTests.run(tally);
        LandEdgeTests.run(tally);
        AskingEdgeTests.run(tally);
        JournalEdgeTests.run(tally);
        RefusalTests.run(tally);
        LanguageTests.run(tally, args.length > 0 ? args[0] : "src/main/java/ToldWays.java");
        ReadmeTests.run(tally);
        ModelTests.run(tally);
        System.out.println(tally.counts());
        if (tally.wrong() != 0) {
            System.exit(1);
        }
    }
}
