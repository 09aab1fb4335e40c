public final class Promise5ClearTest {
    public static void main(String[] args) {
        Run.of("clear answers how many lines there were",
                "clear(): 0",
                "line(): 0",
                "line(): 1",
                "line(): 2",
                "clear(): 3",
                "clear(): 0",
                "line(): 0",
                "clear(): 1");
        Run.of("clear leaves no lines",
                "line(): 0",
                "form(4, 1, 0): 1",
                "aim(0, 1, 0): -",
                "settle(): throws.UnsupportedOperationException",
                "clear(): 1",
                "settle(): 0",
                "told(0, 0): 0",
                "told(1, 0): throws.IndexOutOfBoundsException",
                "told(0, 1): throws.IndexOutOfBoundsException",
                "value(0): throws.IndexOutOfBoundsException",
                "wrong(): -1");
        Run.of("clear is a change, even without lines",
                "settle(): 0",
                "wrong(): -1",
                "clear(): 0",
                "wrong(): throws.IllegalStateException",
                "told(0, 0): throws.IllegalStateException",
                "value(0): throws.IllegalStateException");
        new Run("120 lines can be made anew").bareLines(0, 120)
                .rows("clear(): 120").bareLines(0, 120)
                .rows("line(): throws.IllegalStateException", "clear(): 120");
        Run.end();
    }
}
