/** Counts the checks of one test class and tells those that fail. */
final class Due {
    private static final int MOST_TOLD = 40;
    private int passed = 0;
    private int failed = 0;

    void is(int promise, String what, long got, long want) {
        if (got == want) {
            passed++;
            return;
        }
        failed++;
        if (failed <= MOST_TOLD) {
            System.out.println("promise " + promise + ": " + what + " answered " + got + ", due is " + want);
        }
    }

    void is(int promise, String what, boolean got, boolean want) {
        is(promise, what, got ? 1 : 0, want ? 1 : 0);
    }

    int failures() {
        return failed;
    }

    /** The last line that .ci/run reads; the machine's exit code is 1 if a check failed. */
    void end() {
        System.out.println(passed + " passed, " + failed + " failed");
        if (failed > 0) {
            System.exit(1);
        }
    }
}
