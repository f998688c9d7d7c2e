/** Runs every test of the project; the arguments are the paths of the class's source and of README.md. */
public final class AllTests {
    public static void main(String[] args) throws Exception {
        Check check = new Check();
        PagesTest.run(check);
        QueriesTest.run(check);
        OrderTest.run(check);
        TuningTest.run(check);
        MixingTest.run(check);
        ImagesTest.run(check);
        FindTermsTest.run(check);
        OrderTermsTest.run(check);
        TuningTermsTest.run(check);
        MixTermsTest.run(check);
        ImageTermsTest.run(check);
        LastOnesTest.run(check);
        RefusalsTest.run(check);
        TogetherTest.run(check);
        LeftBehindTest.run(check);
        FullHouseTest.run(check);
        RandomRunsTest.run(check);
        LanguageTest.run(check, args.length > 0 ? args[0] : "src/main/java/FoundFirst.java");
        ReadmeTest.run(check, args.length > 1 ? args[1] : "README.md");
        System.out.println("answers: " + check.passed() + " as due, " + check.failed() + " not");
        if (check.failed() != 0) {
            System.exit(1);
        }
    }
}
