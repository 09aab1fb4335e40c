public final class Promise5ClearTest {
    public static void main(String[] args) {
        Run.of("clear answers how many lines there were",
                "clear(): 0",
                "line(): 0",
                "line(): 1",
                "line(): 2",
                "clear(): 3",
                "clear(): 0",
                "line(): 0",
                "clear(): 1");
        Run.of("clear leaves no lines",
                "line(): 0",
                "form(4, 1, 0): 1",
                "aim(0, 1, 0): -",
                "settle(): throws.UnsupportedOperationException",
                "clear(): 1",
                "settle(): 0",
                "told(0, 0): 0",
                "told(1, 0): throws.IndexOutOfBoundsException",
                "told(0, 1): throws.IndexOutOfBoundsException",
                "value(0): throws.IndexOutOfBoundsException",
                "wrong(): -1");
        Run.of("clear is a change, even without lines",
                "settle(): 0",
                "wrong(): -1",
                "clear(): 0",
                "wrong(): throws.IllegalStateException",
                "told(0, 0): throws.IllegalStateException",
                "value(0): throws.IllegalStateException");
        Run.of("clear takes the forms, the target and the offset with the line",
                "line(): 0", "form(1, 1, 0): 1", "form(2, 1, 0): 2", "form(3, 1, 0): 3", "form(4, 8, 0): 4",
                "aim(0, 1, 50): -", "settle(): 3", "clear(): 1",
                "line(): 0", "settle(): 0", "told(0, 1): -1", "told(1, 0): 0", "value(0): 0",
                "form(5, 1, 0): 1", "form(6, 8, 0): 2", "settle(): 0", "told(1, 0): 5",
                "aim(0, 0, 9): -", "settle(): 1", "told(1, 0): 6",
                "aim(0, 0, -1): -", "settle(): throws.UnsupportedOperationException", "told(0, 1): 1");
        Run.of("clear of what a settling that threw had settled",
                "line(): 0", "form(1, 1, 0): 1", "aim(0, 0, 2): -",
                "settle(): throws.UnsupportedOperationException", "wrong(): 0",
                "clear(): 1", "wrong(): throws.IllegalStateException",
                "settle(): 0", "wrong(): -1");
        new Run("120 lines can be made anew").bareLines(0, 120)
                .rows("clear(): 120").bareLines(0, 120)
                .rows("line(): throws.IllegalStateException", "clear(): 120");
        Run.end();
    }
}
