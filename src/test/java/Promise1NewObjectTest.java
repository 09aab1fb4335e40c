public final class Promise1NewObjectTest {
    public static void main(String[] args) {
        Run.of("nothing is settled in a new object",
                "told(0, 0): throws.IllegalStateException",
                "told(0, 1): throws.IllegalStateException",
                "told(0, 2): throws.IllegalStateException",
                "value(0): throws.IllegalStateException",
                "wrong(): throws.IllegalStateException");
        Run.of("a new object has no lines",
                "form(1, 1, 0): throws.IllegalStateException",
                "aim(0, 0, 0): throws.IndexOutOfBoundsException",
                "clear(): 0",
                "settle(): 0",
                "told(0, 0): 0",
                "told(0, 1): throws.IndexOutOfBoundsException",
                "value(0): throws.IndexOutOfBoundsException",
                "wrong(): -1");
        Run.of("of several exceptions the first in the heading is thrown",
                "form(0, 0, -1): throws.IllegalArgumentException",
                "told(-1, 0): throws.IllegalStateException",
                "value(-1): throws.IllegalStateException",
                "told(-1, 3): throws.IllegalArgumentException");
        objectsAreApart();
        Run.end();
    }

    private static void objectsAreApart() {
        Run one = new Run("one object of two").rows("line(): 0", "form(3, 2, 0): 1", "form(4, 8, 0): 2");
        Run two = new Run("the other of two").rows("clear(): 0", "line(): 0", "form(9, 8, 0): 1", "form(7, 8, 1): 2");
        one.rows("aim(0, 1, 200): -", "settle(): 1");
        two.rows("wrong(): throws.IllegalStateException", "settle(): 0");
        one.rows("told(0, 1): 1", "told(1, 0): 4", "value(0): 204", "settle(): 1", "told(1, 0): 4",
                "form(1, 1, 0): 3");
        two.rows("told(0, 1): 0", "told(1, 0): 9", "value(0): 0", "settle(): 0", "told(1, 0): 9",
                "form(1, 1, 0): 3");
    }
}
