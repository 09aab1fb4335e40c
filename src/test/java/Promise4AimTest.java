public final class Promise4AimTest {
    private static final String[] NO_SUCH = {
        "aim(-1, 0, 0)", "aim(2, 0, 0)", "aim(MIN, 0, 0)", "aim(MAX, 0, 0)",
        "aim(0, -1, 0)", "aim(0, 3, 0)", "aim(0, MIN, 0)", "aim(0, MAX, 0)", "aim(2, 3, 0)",
    };

    public static void main(String[] args) {
        Run.of("target and offset of a line",
                "line(): 0",
                "form(4, 32, 0): 1",
                "line(): 1",
                "form(8, 32, 0): 1",
                "aim(0, 1, 100): -",
                "aim(1, 2, 7): -",
                "settle(): 0",
                "value(0): 104",
                "value(1): 19",
                "aim(1, 0, 3): -",
                "settle(): 0",
                "value(0): 104",
                "value(1): 3");
        Run.of("the least and the greatest offset",
                "line(): 0",
                "aim(0, 0, MIN): -", "settle(): 0", "value(0): -2147483648",
                "aim(0, 0, MAX): -", "settle(): 0", "value(0): 2147483647");
        Run.of("a line may aim at itself",
                "line(): 0",
                "form(4, 8, 0): 1",
                "line(): 1",
                "form(4, 8, 0): 1",
                "aim(1, 1, 1): -",
                "settle(): 0",
                "value(1): 5");
        Run.of("there is nothing to aim without lines",
                "aim(0, 0, 0): throws.IndexOutOfBoundsException",
                "line(): 0",
                "clear(): 1",
                "aim(0, 0, 0): throws.IndexOutOfBoundsException");
        Run.of("an aim is a change, even to what was there",
                "line(): 0",
                "settle(): 0",
                "aim(0, 0, 0): -",
                "value(0): throws.IllegalStateException",
                "told(0, 0): throws.IllegalStateException",
                "wrong(): throws.IllegalStateException");
        noSuchLineOrTarget();
        Run.end();
    }

    private static void noSuchLineOrTarget() {
        Run run = new Run("no such line or target").rows(
                "line(): 0", "form(4, 8, 0): 1", "line(): 1", "aim(0, 1, 6): -", "settle(): 0");
        for (String call : NO_SUCH) {
            run.rows(call + ": throws.IndexOutOfBoundsException", "value(0): 10", "value(1): 0");
        }
        run.rows("settle(): 0", "value(0): 10", "value(1): 0");
    }
}
