public final class Promise8ValueTest {
    public static void main(String[] args) {
        Run.of("target and offset, less the own address with sort 2 alone",
                "line(): 0", "form(10, 16, 0): 1",
                "line(): 1", "form(20, 16, 0): 1",
                "line(): 2", "form(30, 16, 1): 1", "aim(2, 3, 5): -",
                "line(): 3", "form(40, 16, 2): 1", "aim(1, 3, 5): -", "aim(3, 3, 5): -",
                "line(): 4", "form(50, 16, 2): 1", "aim(4, 5, -1): -",
                "line(): 5", "aim(5, 1, -11): -",
                "settle(): 0",
                "value(0): 0", "value(1): 65", "value(2): 65", "value(3): 5", "value(4): 49", "value(5): -1");
        Run.of("with the form that it has: sorts may differ",
                "line(): 0", "form(8, 8, 0): 1",
                "line(): 1", "form(1, 3, 1): 1", "form(2, 4, 2): 2", "aim(1, 2, 0): -",
                "settle(): 1", "value(1): 2", "told(1, 1): 1",
                "line(): 2", "form(1, 1, 2): 1", "form(2, 8, 0): 2", "aim(2, 3, 0): -",
                "settle(): 1", "value(2): 12", "told(2, 1): 1");
        Run.of("a long, not an int",
                "line(): 0", "form(64, 32, 0): 1", "aim(0, 1, MAX): -", "settle(): 0", "value(0): 2147483711",
                "line(): 1", "aim(1, 2, MAX): -", "settle(): 0", "value(1): 2147483711",
                "line(): 2", "form(1, 32, 2): 1", "aim(2, 0, MIN): -",
                "settle(): throws.UnsupportedOperationException", "value(2): -2147483712");
        Run.of("of a line that does not fit",
                "line(): 0", "form(1, 1, 0): 1", "form(3, 1, 0): 2", "aim(0, 1, 1): -",
                "settle(): throws.UnsupportedOperationException", "value(0): 4");
        noSuchLine();
        notSettledSinceTheLatestChange();
        Run.end();
    }

    private static void noSuchLine() {
        Run.of("without lines there is no value",
                "settle(): 0", "value(0): throws.IndexOutOfBoundsException",
                "value(-1): throws.IndexOutOfBoundsException");
        Run.of("the end has no value, nor what is beyond the lines",
                "line(): 0", "line(): 1", "form(6, 8, 0): 1", "aim(1, 2, 3): -", "settle(): 0",
                "value(0): 0", "value(1): 9",
                "value(2): throws.IndexOutOfBoundsException",
                "value(3): throws.IndexOutOfBoundsException",
                "value(-1): throws.IndexOutOfBoundsException",
                "value(MIN): throws.IndexOutOfBoundsException",
                "value(MAX): throws.IndexOutOfBoundsException",
                "value(1): 9");
        new Run("the last of 120 lines has a value, the end behind it none").bareLines(0, 120).rows(
                "aim(119, 120, 5): -", "settle(): 0", "value(119): 5", "value(120): throws.IndexOutOfBoundsException");
        Run.of("the end has no value either when a settling threw",
                "line(): 0", "form(6, 1, 0): 1", "aim(0, 1, 0): -", "settle(): throws.UnsupportedOperationException",
                "value(0): 6", "value(1): throws.IndexOutOfBoundsException");
    }

    private static void notSettledSinceTheLatestChange() {
        for (String change : new String[] {"line(): 1", "form(1, 8, 0): 2", "aim(0, 0, 3): -", "clear(): 1"}) {
            Run.of("not settled since " + change + ", looked at before the line",
                    "line(): 0", "form(1, 8, 0): 1", "aim(0, 0, 3): -",
                    "value(0): throws.IllegalStateException", "settle(): 0", "value(0): 3",
                    change,
                    "value(0): throws.IllegalStateException",
                    "value(1): throws.IllegalStateException",
                    "value(2): throws.IllegalStateException",
                    "value(-1): throws.IllegalStateException",
                    "value(MAX): throws.IllegalStateException",
                    "settle(): 0", "value(7): throws.IndexOutOfBoundsException");
        }
    }
}
