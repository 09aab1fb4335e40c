public final class Promise7ToldTest {
    private static final String[] TWO_LINES = {
        "line(): 0", "form(3, 1, 0): 1", "form(5, 8, 0): 2", "line(): 1", "aim(0, 2, 0): -",
    };

    public static void main(String[] args) {
        new Run("address, form and fit of a line; the address of the end").rows(TWO_LINES).rows(
                "settle(): 1",
                "told(0, 0): 0", "told(1, 0): 5", "told(2, 0): 5",
                "told(0, 1): 1", "told(1, 1): -1",
                "told(0, 2): 1", "told(1, 2): 1");
        Run.of("of a line that does not fit",
                "line(): 0", "form(3, 1, 0): 1", "aim(0, 1, 0): -",
                "settle(): throws.UnsupportedOperationException",
                "told(0, 0): 0", "told(0, 1): 0", "told(0, 2): 0", "told(1, 0): 3");
        new Run("no such line").rows(TWO_LINES).rows(
                "settle(): 1",
                "told(2, 1): throws.IndexOutOfBoundsException",
                "told(2, 2): throws.IndexOutOfBoundsException",
                "told(3, 0): throws.IndexOutOfBoundsException",
                "told(-1, 0): throws.IndexOutOfBoundsException",
                "told(-1, 1): throws.IndexOutOfBoundsException",
                "told(-1, 2): throws.IndexOutOfBoundsException",
                "told(MIN, 0): throws.IndexOutOfBoundsException",
                "told(MAX, 0): throws.IndexOutOfBoundsException",
                "told(0, 0): 0");
        Run anotherWhat = new Run("another what, before all else").rows(TWO_LINES);
        for (String what : new String[] {"-1", "3", "MIN", "MAX"}) {
            anotherWhat.rows("told(0, " + what + "): throws.IllegalArgumentException",
                    "told(9, " + what + "): throws.IllegalArgumentException");
        }
        anotherWhat.rows("settle(): 1",
                "told(0, 3): throws.IllegalArgumentException",
                "told(2, 3): throws.IllegalArgumentException",
                "told(-1, -1): throws.IllegalArgumentException",
                "told(0, 1): 1");
        new Run("not settled, before the line is looked at").rows(TWO_LINES).rows(
                "told(0, 0): throws.IllegalStateException",
                "told(9, 0): throws.IllegalStateException",
                "told(-1, 1): throws.IllegalStateException",
                "settle(): 1", "told(9, 0): throws.IndexOutOfBoundsException");
        new Run("calls that throw leave it settled").rows(TWO_LINES).rows(
                "settle(): 1",
                "form(0, 1, 0): throws.IllegalArgumentException",
                "aim(2, 0, 0): throws.IndexOutOfBoundsException",
                "value(2): throws.IndexOutOfBoundsException",
                "told(0, 9): throws.IllegalArgumentException",
                "told(1, 0): 5");
        Run.end();
    }
}
