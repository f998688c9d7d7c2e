/** Runs every test of the project; the first argument is the path of the class's source. */
public final class AllTests {
    public static void main(String[] args) throws Exception {
        Check check = new Check();
        PagesTest.run(check);
        QueriesTest.run(check);
        OrderTest.run(check);
        TuningTest.run(check);
        MixingTest.run(check);
        ImagesTest.run(check);
        FindTermsTest.run(check);
        OrderTermsTest.run(check);
        TuningTermsTest.run(check);
        MixTermsTest.run(check);
        ImageTermsTest.run(check);
        LastOnesTest.run(check);
        RefusalsTest.run(check);
        FullHouseTest.run(check);
        RandomRunsTest.run(check);
        LanguageTest.run(check, args.length > 0 ? args[0] : "src/main/java/FoundFirst.java");
        System.out.println("answers: " + check.passed() + " as due, " + check.failed() + " not");
        if (check.failed() != 0) {
            System.exit(1);
        }
    }
}
