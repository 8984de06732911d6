/** Compares answers with what is due, prints those that differ, and ends a test. */
final class Due {
    private final String test;
    private int wrong;

    Due(String test) {
        this.test = test;
    }

    void is(String what, long got, long want) {
        if (got != want) {
            wrong++;
            System.out.println(test + ": " + what + " answered " + got + ", due is " + want);
        }
    }

    void is(String what, boolean got, boolean want) {
        is(what, got ? 1L : 0L, want ? 1L : 0L);
    }

    void end() {
        if (wrong != 0) {
            System.out.println(test + ": " + wrong + " answers are not as due");
            System.exit(1);
        }
    }
}
