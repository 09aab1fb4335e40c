/** Counts what does not hold of a test that is no run of calls. */
final class Due {
    private static int wrong = 0;

    private Due() {
    }

    static void is(boolean holds, String what) {
        if (!holds) {
            wrong++;
            System.out.println("is due: " + what);
        }
    }

    /** Says how the test went, and ends it with exit code 1 if something did not hold. */
    static void end(String allHolds) {
        System.out.println(wrong == 0 ? allHolds : wrong + " faults");
        if (wrong != 0) {
            System.exit(1);
        }
    }
}
