public final class Promise1NewObjectTest {
    public static void main(String[] args) {
        Run.of("nothing is settled in a new object",
                "told(0, 0): throws.IllegalStateException",
                "told(0, 1): throws.IllegalStateException",
                "told(0, 2): throws.IllegalStateException",
                "value(0): throws.IllegalStateException",
                "wrong(): throws.IllegalStateException");
        Run.of("a new object has no lines",
                "form(1, 1, 0): throws.IllegalStateException",
                "aim(0, 0, 0): throws.IndexOutOfBoundsException",
                "clear(): 0",
                "settle(): 0",
                "told(0, 0): 0",
                "told(0, 1): throws.IndexOutOfBoundsException",
                "value(0): throws.IndexOutOfBoundsException",
                "wrong(): -1");
        formThrowsTheFirst();
        toldThrowsAsItSays();
        valueThrowsTheFirst();
        settleThrowsTheFirst();
        settleThatThrowsIsSettled();
        objectsAreApart();
        Run.end();
    }

    private static void formThrowsTheFirst() {
        for (String form : new String[] {"form(0, 8, 0)", "form(65, 8, 0)", "form(1, 0, 0)", "form(1, 33, 0)",
            "form(1, 8, -1)", "form(1, 8, 3)", "form(0, 0, -1)"}) {
            Run.of("form: not as said and without a line", form + ": throws.IllegalArgumentException");
            Run.of("form: not as said and 4 forms",
                    "line(): 0", "form(1, 8, 0): 1", "form(1, 8, 0): 2", "form(1, 8, 0): 3", "form(1, 8, 0): 4",
                    form + ": throws.IllegalArgumentException");
        }
    }

    private static void toldThrowsAsItSays() {
        Run.of("told: another what first, then not settled, then the line",
                "line(): 0",
                "told(2, 3): throws.IllegalArgumentException",
                "told(2, -1): throws.IllegalArgumentException",
                "told(0, 3): throws.IllegalArgumentException",
                "told(0, -1): throws.IllegalArgumentException",
                "told(2, 0): throws.IllegalStateException",
                "told(1, 1): throws.IllegalStateException",
                "told(-1, 2): throws.IllegalStateException",
                "told(0, 2): throws.IllegalStateException",
                "settle(): 0",
                "told(2, 3): throws.IllegalArgumentException",
                "told(-1, -1): throws.IllegalArgumentException",
                "told(0, 3): throws.IllegalArgumentException",
                "told(2, 0): throws.IndexOutOfBoundsException",
                "told(1, 1): throws.IndexOutOfBoundsException",
                "told(0, 2): 1");
    }

    private static void valueThrowsTheFirst() {
        Run.of("value: not settled before the line",
                "line(): 0",
                "value(-1): throws.IllegalStateException",
                "value(1): throws.IllegalStateException",
                "settle(): 0",
                "value(-1): throws.IndexOutOfBoundsException",
                "value(1): throws.IndexOutOfBoundsException");
    }

    private static void settleThrowsTheFirst() {
        new Run("settle: the end above 4096 before a line without a next form")
                .lines(0, 64, "form(64, 8, 0)").rows(
                "aim(0, 0, -1): -", "settle(): throws.UnsupportedOperationException", "wrong(): 0",
                "line(): 64", "form(1, 8, 0): 1", "settle(): throws.IllegalStateException", "wrong(): 0",
                "aim(0, 0, 0): -", "settle(): throws.IllegalStateException", "wrong(): -1");
    }

    private static void settleThatThrowsIsSettled() {
        Run.of("a call that throws changes nothing, but settle: no next form",
                "line(): 0", "form(1, 1, 0): 1", "form(2, 2, 0): 2", "aim(0, 0, 9): -",
                "told(0, 1): throws.IllegalStateException",
                "settle(): throws.UnsupportedOperationException", "told(0, 1): 1", "told(1, 0): 2");
        new Run("a call that throws changes nothing, but settle: the end above 4096")
                .lines(0, 65, "form(64, 8, 0)").rows(
                "told(65, 0): throws.IllegalStateException",
                "settle(): throws.IllegalStateException", "told(65, 0): 4160");
    }

    private static void objectsAreApart() {
        Run one = new Run("one object of two").rows("line(): 0", "form(3, 2, 0): 1", "form(4, 8, 0): 2");
        Run two = new Run("the other of two").rows("clear(): 0", "line(): 0", "form(9, 8, 0): 1", "form(7, 8, 1): 2");
        one.rows("aim(0, 1, 200): -", "settle(): 1");
        two.rows("wrong(): throws.IllegalStateException", "settle(): 0");
        one.rows("told(0, 1): 1", "told(1, 0): 4", "value(0): 204", "settle(): 1", "told(1, 0): 4",
                "form(1, 1, 0): 3");
        two.rows("told(0, 1): 0", "told(1, 0): 9", "value(0): 0", "settle(): 0", "told(1, 0): 9",
                "form(1, 1, 0): 3");
    }
}
