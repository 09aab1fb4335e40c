public final class Promise3FormTest {
    private static final String[] NOT_AS_SAID = {
        "form(0, 8, 0)", "form(65, 8, 0)", "form(-1, 8, 0)", "form(MIN, 8, 0)", "form(MAX, 8, 0)",
        "form(1, 0, 0)", "form(1, 33, 0)", "form(1, -1, 0)", "form(1, MIN, 0)", "form(1, MAX, 0)",
        "form(1, 8, -1)", "form(1, 8, 3)", "form(1, 8, MIN)", "form(1, 8, MAX)",
    };

    public static void main(String[] args) {
        Run.of("a form answers how many the last line has",
                "line(): 0",
                "form(1, 8, 0): 1",
                "form(2, 8, 1): 2",
                "line(): 1",
                "form(3, 8, 2): 1",
                "settle(): 0",
                "told(0, 0): 0",
                "told(1, 0): 1",
                "told(2, 0): 4");
        Run.of("of the last line, though those before it have none",
                "line(): 0",
                "line(): 1",
                "line(): 2",
                "form(6, 8, 0): 1",
                "settle(): 0",
                "told(1, 1): -1",
                "told(2, 0): 0",
                "told(2, 1): 0",
                "told(3, 0): 6");
        Run.of("forms are kept in order, each with its own numbers",
                "line(): 0",
                "form(1, 1, 0): 1",
                "form(64, 2, 1): 2",
                "form(7, 32, 2): 3",
                "form(9, 32, 0): 4",
                "aim(0, 0, 0): -", "settle(): 0", "told(1, 0): 1",
                "aim(0, 0, -1): -", "settle(): 1", "told(1, 0): 64",
                "aim(0, 0, -3): -", "settle(): 2", "told(1, 0): 7",
                "aim(0, 1, MAX): -", "settle(): 3", "told(1, 0): 9", "told(0, 1): 3");
        Run.of("the edges of size, bits and sort",
                "line(): 0",
                "form(1, 1, 0): 1",
                "form(64, 32, 2): 2",
                "form(64, 1, 1): 3",
                "form(1, 32, 0): 4");
        Run.of("a line has at most 4 forms",
                "line(): 0",
                "form(1, 8, 0): 1",
                "form(2, 8, 0): 2",
                "form(3, 8, 0): 3",
                "form(4, 8, 0): 4",
                "settle(): 0",
                "form(5, 8, 0): throws.IllegalStateException",
                "told(1, 0): 1",
                "form(0, 8, 0): throws.IllegalArgumentException",
                "line(): 1",
                "form(5, 8, 0): 1",
                "settle(): 0",
                "told(1, 0): 1",
                "told(2, 0): 6");
        Run.of("a form needs a line, also after clear",
                "form(1, 8, 0): throws.IllegalStateException",
                "line(): 0",
                "form(1, 8, 0): 1",
                "clear(): 1",
                "form(1, 8, 0): throws.IllegalStateException");
        Run.of("a form is a change",
                "line(): 0",
                "settle(): 0",
                "form(1, 8, 0): 1",
                "told(0, 0): throws.IllegalStateException");
        numbersNotAsSaid();
        Run.end();
    }

    private static void numbersNotAsSaid() {
        Run without = new Run("wrong numbers come before the missing line");
        Run with = new Run("wrong numbers change nothing").rows("line(): 0", "form(2, 8, 0): 1", "settle(): 0");
        for (String call : NOT_AS_SAID) {
            without.rows(call + ": throws.IllegalArgumentException");
            with.rows(call + ": throws.IllegalArgumentException", "told(1, 0): 2");
        }
        with.rows("form(2, 8, 0): 2");
    }
}
