/** Compares answers with those that are due and ends a test with exit code 1 if one was wrong. */
final class Check {
    private String heading = "";
    private int wrong = 0;
    private int compared = 0;

    /** What is compared from now on is told under this heading. */
    void under(String newHeading) {
        heading = newHeading + ": ";
    }

    void due(String call, long got, long want) {
        compared++;
        if (got != want) {
            wrong(call + " answered " + got + ", due is " + want);
        }
    }

    void due(String call, boolean got, boolean want) {
        due(call, got ? 1L : 0L, want ? 1L : 0L);
    }

    void wrong(String what) {
        wrong++;
        System.out.println(heading + what);
    }

    int compared() {
        return compared;
    }

    boolean allRight() {
        return wrong == 0;
    }

    void end() {
        System.out.println(compared + " answers, " + wrong + " faults");
        if (wrong != 0 || compared == 0) {
            System.exit(1);
        }
    }
}
