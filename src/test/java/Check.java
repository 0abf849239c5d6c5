/** Compares answers with those that are due and ends a test with exit code 1 if one was wrong. */
final class Check {
    private int wrong = 0;
    private int compared = 0;

    void due(String call, long got, long want) {
        compared++;
        if (got != want) {
            wrong++;
            System.out.println(call + " answered " + got + ", due is " + want);
        }
    }

    void due(String call, boolean got, boolean want) {
        due(call, got ? 1L : 0L, want ? 1L : 0L);
    }

    boolean allRight() {
        return wrong == 0;
    }

    void end() {
        System.out.println(compared + " answers, " + wrong + " of them not as due");
        if (wrong != 0 || compared == 0) {
            System.exit(1);
        }
    }
}
