public final class Promise2LineTest {
    public static void main(String[] args) {
        Run.of("a line answers its number",
                "line(): 0",
                "line(): 1",
                "form(1, 1, 0): 1",
                "line(): 2");
        Run.of("a new line has no forms, the target line 0 and the offset 0",
                "line(): 0",
                "form(5, 8, 0): 1",
                "line(): 1",
                "settle(): 0",
                "told(1, 1): -1",
                "told(1, 2): 1",
                "told(1, 0): 5",
                "told(2, 0): 5",
                "value(1): 0");
        everyNewLineIsBare();
        Run.of("a line made after clear keeps nothing of the one before it",
                "line(): 0",
                "form(5, 8, 0): 1",
                "form(6, 8, 0): 2",
                "line(): 1",
                "form(7, 8, 0): 1",
                "aim(1, 2, 9): -",
                "settle(): 0",
                "value(1): 21",
                "clear(): 2",
                "line(): 0",
                "form(5, 8, 0): 1",
                "line(): 1",
                "settle(): 0",
                "told(1, 1): -1",
                "told(2, 0): 5",
                "value(1): 0",
                "form(8, 8, 0): 1");
        Run.of("a further line takes the number of the end from it",
                "line(): 0",
                "form(2, 8, 0): 1",
                "aim(0, 1, 0): -",
                "line(): 1",
                "form(3, 8, 0): 1",
                "settle(): 0",
                "value(0): 2");
        Run.of("a line is a change",
                "line(): 0",
                "settle(): 0",
                "line(): 1",
                "told(0, 0): throws.IllegalStateException",
                "value(0): throws.IllegalStateException",
                "wrong(): throws.IllegalStateException");
        atMost120Lines();
        Run.end();
    }

    private static void everyNewLineIsBare() {
        Run run = new Run("each of 120 lines begins without forms, behind a line that has one");
        for (int i = 0; i < 120; i++) {
            run.rows("line(): " + i, "settle(): 0", "told(" + i + ", 1): -1", "form(1, 8, 0): 1");
        }
    }

    private static void atMost120Lines() {
        new Run("there are at most 120 lines").bareLines(0, 119).rows(
                "line(): 119",
                "line(): throws.IllegalStateException",
                "aim(119, 120, 4): -",
                "form(9, 8, 0): 1",
                "settle(): 0",
                "line(): throws.IllegalStateException",
                "told(120, 0): 9",
                "value(119): 13",
                "told(121, 0): throws.IndexOutOfBoundsException",
                "clear(): 120",
                "line(): 0");
    }
}
