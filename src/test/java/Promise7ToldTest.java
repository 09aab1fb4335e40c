public final class Promise7ToldTest {
    private static final String[] TWO_LINES = {
        "line(): 0", "form(3, 1, 0): 1", "form(5, 8, 0): 2", "line(): 1", "aim(0, 2, 0): -",
    };

    public static void main(String[] args) {
        ordinary();
        noSuchLine();
        anotherWhat();
        notSettledSinceTheLatestChange();
        stillSettled();
        Run.end();
    }

    private static void ordinary() {
        new Run("address, form and fit of a line; the address of the end").rows(TWO_LINES).rows(
                "settle(): 1",
                "told(0, 0): 0", "told(1, 0): 5", "told(2, 0): 5",
                "told(0, 1): 1", "told(1, 1): -1",
                "told(0, 2): 1", "told(1, 2): 1");
        Run.of("of a line that does not fit",
                "line(): 0", "form(3, 1, 0): 1", "aim(0, 1, 0): -",
                "settle(): throws.UnsupportedOperationException",
                "told(0, 0): 0", "told(0, 1): 0", "told(0, 2): 0", "told(1, 0): 3");
        Run.of("each line for itself: some fit and some do not",
                "line(): 0", "form(2, 8, 0): 1", "line(): 1", "form(3, 1, 0): 1", "form(4, 1, 0): 2",
                "line(): 2", "line(): 3", "form(5, 1, 0): 1",
                "aim(1, 0, 2): -", "aim(2, 0, -1): -", "aim(3, 0, 2): -",
                "settle(): throws.UnsupportedOperationException",
                "told(0, 2): 1", "told(1, 2): 0", "told(2, 2): 1", "told(3, 2): 0",
                "told(0, 1): 0", "told(1, 1): 0", "told(2, 1): -1", "told(3, 1): 0");
        Run.of("which of its forms it has (from 0; -1 without)",
                "line(): 0", "settle(): 0", "told(0, 1): -1",
                "form(1, 1, 0): 1", "settle(): 0", "told(0, 1): 0",
                "form(1, 2, 0): 2", "form(1, 3, 0): 3", "form(1, 4, 0): 4", "settle(): 0", "told(0, 1): 0",
                "aim(0, 0, 2): -", "settle(): 1", "told(0, 1): 1",
                "aim(0, 0, 4): -", "settle(): 2", "told(0, 1): 2",
                "aim(0, 0, 8): -", "settle(): 3", "told(0, 1): 3",
                "aim(0, 0, 16): -", "settle(): throws.UnsupportedOperationException", "told(0, 1): 3");
    }

    private static void noSuchLine() {
        Run.of("without lines there is the end alone",
                "settle(): 0",
                "told(0, 0): 0", "told(0, 1): throws.IndexOutOfBoundsException",
                "told(0, 2): throws.IndexOutOfBoundsException")
                .rows(noneAt(-1)).rows(noneAt(1));
        new Run("two lines and the end").rows(TWO_LINES).rows(
                "settle(): 1",
                "told(1, 0): 5", "told(1, 1): -1", "told(1, 2): 1",
                "told(2, 0): 5", "told(2, 1): throws.IndexOutOfBoundsException",
                "told(2, 2): throws.IndexOutOfBoundsException")
                .rows(noneAt(-1)).rows(noneAt(3)).rows(noneAt(Integer.MIN_VALUE)).rows(noneAt(Integer.MAX_VALUE))
                .rows("told(0, 0): 0");
        new Run("120 lines and the end").lines(0, 120, "form(2, 8, 0)").rows(
                "settle(): 0",
                "told(119, 0): 238", "told(119, 1): 0", "told(119, 2): 1",
                "told(120, 0): 240", "told(120, 1): throws.IndexOutOfBoundsException",
                "told(120, 2): throws.IndexOutOfBoundsException")
                .rows(noneAt(121));
        new Run("the end is no line either when a settling threw").lines(0, 1, "form(3, 1, 0)").rows(
                "aim(0, 1, 0): -", "settle(): throws.UnsupportedOperationException",
                "told(1, 0): 3", "told(1, 1): throws.IndexOutOfBoundsException",
                "told(1, 2): throws.IndexOutOfBoundsException")
                .rows(noneAt(2));
    }

    /** Neither a line nor the end has the number. */
    private static String[] noneAt(int number) {
        String told = "told(" + number + ", ";
        String thrown = "): throws.IndexOutOfBoundsException";
        return new String[] {told + 0 + thrown, told + 1 + thrown, told + 2 + thrown};
    }

    private static void anotherWhat() {
        Run run = new Run("another what, before all else").rows(TWO_LINES);
        for (int times = 0; times < 2; times++) {
            for (String what : new String[] {"-1", "3", "MIN", "MAX"}) {
                for (String line : new String[] {"-1", "0", "1", "2", "3"}) {
                    run.rows("told(" + line + ", " + what + "): throws.IllegalArgumentException");
                }
            }
            run.rows("settle(): 1", "told(0, 0): 0", "told(0, 1): 1", "told(0, 2): 1");
        }
    }

    private static void notSettledSinceTheLatestChange() {
        for (String change : new String[] {"line(): 2", "form(1, 8, 0): 1", "aim(1, 0, 0): -", "clear(): 2"}) {
            Run run = new Run("not settled since " + change).rows(TWO_LINES).rows("settle(): 1", change);
            allThrow(run);
            run.rows("settle(): " + (change.startsWith("clear") ? 0 : 1), "wrong(): -1", "told(0, 0): 0");

            Run failed = new Run("not settled since a settling that threw and " + change).rows(TWO_LINES).rows(
                    "aim(0, 2, MIN): -", "settle(): throws.UnsupportedOperationException", "told(0, 1): 1", change);
            allThrow(failed);
        }
        Run never = new Run("never settled").rows(TWO_LINES);
        allThrow(never);
        Run.of("clear without lines is a change", "settle(): 0", "told(0, 0): 0", "clear(): 0",
                "told(0, 0): throws.IllegalStateException");
    }

    /** Looked at before the line: for those that there are, for the end, and for others. */
    private static void allThrow(Run run) {
        for (String line : new String[] {"MIN", "-1", "0", "1", "2", "3", "4", "MAX"}) {
            for (int what = 0; what <= 2; what++) {
                run.rows("told(" + line + ", " + what + "): throws.IllegalStateException");
            }
        }
    }

    private static void stillSettled() {
        new Run("calls that throw are no changes").rows(TWO_LINES).rows(
                "settle(): 1",
                "form(0, 1, 0): throws.IllegalArgumentException", "told(1, 0): 5",
                "aim(2, 0, 0): throws.IndexOutOfBoundsException", "told(1, 0): 5",
                "aim(0, 3, 0): throws.IndexOutOfBoundsException", "told(1, 0): 5",
                "value(2): throws.IndexOutOfBoundsException", "told(1, 0): 5",
                "told(2, 1): throws.IndexOutOfBoundsException", "told(1, 0): 5",
                "told(0, 9): throws.IllegalArgumentException", "told(1, 0): 5");
        Run.of("a form that throws without a line is no change",
                "settle(): 0", "form(1, 1, 0): throws.IllegalStateException", "told(0, 0): 0");
        Run.of("a fifth form is no change",
                "line(): 0", "form(4, 1, 0): 1", "form(5, 1, 0): 2", "form(6, 1, 0): 3", "form(7, 8, 0): 4",
                "settle(): 0", "form(1, 1, 0): throws.IllegalStateException", "told(1, 0): 4");
        new Run("a line beyond 120 is no change").bareLines(0, 120).rows(
                "settle(): 0", "line(): throws.IllegalStateException", "told(120, 0): 0");
        new Run("what is asked is no change").rows(TWO_LINES).rows(
                "settle(): 1", "told(0, 0): 0", "value(0): 5", "wrong(): -1", "settle(): 1", "told(1, 0): 5");
    }
}
