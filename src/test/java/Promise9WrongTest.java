public final class Promise9WrongTest {
    public static void main(String[] args) {
        Run.of("-1 if all fit",
                "settle(): 0", "wrong(): -1",
                "line(): 0", "settle(): 0", "wrong(): -1",
                "form(1, 1, 0): 1", "form(1, 4, 0): 2", "aim(0, 0, 9): -", "settle(): 1", "wrong(): -1");
        Run.of("the least that does not fit",
                "line(): 0", "form(1, 8, 0): 1",
                "line(): 1", "aim(1, 0, MIN): -",
                "line(): 2", "form(1, 1, 0): 1", "aim(2, 0, 2): -",
                "line(): 3", "form(1, 1, 0): 1", "aim(3, 0, 2): -",
                "settle(): throws.UnsupportedOperationException", "wrong(): 2",
                "aim(2, 0, 1): -", "settle(): throws.UnsupportedOperationException", "wrong(): 3",
                "aim(0, 0, -1): -", "settle(): throws.UnsupportedOperationException", "wrong(): 0");
        Run.of("the least may be one that has a next form",
                "line(): 0", "form(1, 1, 0): 1", "form(1, 8, 0): 2", "aim(0, 0, 9): -",
                "line(): 1", "form(1, 1, 0): 1", "aim(1, 0, 9): -",
                "settle(): throws.UnsupportedOperationException", "wrong(): 0");
        new Run("the end above 4096").lines(0, 65, "form(64, 8, 0)").rows(
                "settle(): throws.IllegalStateException", "wrong(): -1",
                "aim(40, 0, 256): -", "settle(): throws.IllegalStateException", "wrong(): 40");
        theLastOf120();
        notSettledSinceTheLatestChange();
        Run.end();
    }

    private static void theLastOf120() {
        new Run("the last of 120 lines").bareLines(0, 120).rows(
                "form(1, 1, 0): 1", "settle(): 0", "wrong(): -1",
                "aim(119, 0, 2): -", "settle(): throws.UnsupportedOperationException", "wrong(): 119",
                "aim(119, 0, 1): -", "settle(): 0", "wrong(): -1");
        new Run("all of 120 lines, then all but the first").lines(0, 120, "form(1, 1, 1)").rows(
                "settle(): 0", "wrong(): -1")
                .rows(aimAll(120))
                .rows("settle(): throws.UnsupportedOperationException", "wrong(): 0",
                        "aim(0, 0, 0): -", "settle(): throws.UnsupportedOperationException", "wrong(): 1");
    }

    /** At 1, which one bit with sign does not hold. */
    private static String[] aimAll(int count) {
        String[] rows = new String[count];
        for (int i = 0; i < count; i++) {
            rows[i] = "aim(" + i + ", 0, 1): -";
        }
        return rows;
    }

    private static void notSettledSinceTheLatestChange() {
        Run.of("not settled in a new object", "wrong(): throws.IllegalStateException", "settle(): 0", "wrong(): -1",
                "clear(): 0", "wrong(): throws.IllegalStateException");
        for (String change : new String[] {"line(): 1", "form(1, 1, 0): 2", "aim(0, 0, 2): -", "clear(): 1"}) {
            Run.of("not settled since " + change,
                    "line(): 0", "form(1, 1, 0): 1", "wrong(): throws.IllegalStateException",
                    "settle(): 0", "wrong(): -1", change, "wrong(): throws.IllegalStateException");
            Run.of("not settled since a settling that threw and " + change,
                    "line(): 0", "form(1, 1, 0): 1", "aim(0, 0, 2): -",
                    "settle(): throws.UnsupportedOperationException", "wrong(): 0",
                    change, "wrong(): throws.IllegalStateException");
        }
    }
}
