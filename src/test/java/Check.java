/** Counts answers that are as due and prints those that are not. */
final class Check {
    private static final int MOST_PRINTED = 40;
    private String promise = "";
    private int passed = 0;
    private int failed = 0;

    void promise(String name) {
        promise = name;
    }

    void due(String call, long want, long got) {
        if (want == got) {
            passed++;
            return;
        }
        failed++;
        if (failed <= MOST_PRINTED) {
            System.out.println(promise + ": " + call + " answered " + got + ", due is " + want);
        }
    }

    void yes(String call, boolean got) {
        due(call, 1, got ? 1 : 0);
    }

    void no(String call, boolean got) {
        due(call, 0, got ? 1 : 0);
    }

    void none(String call, int got) {
        due(call, -1, got);
    }

    int passed() {
        return passed;
    }

    int failed() {
        return failed;
    }
}
