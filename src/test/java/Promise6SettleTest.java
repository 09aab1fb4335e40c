public final class Promise6SettleTest {
    public static void main(String[] args) {
        ordinary();
        fitting();
        endAbove4096();
        noNextForm();
        Run.end();
    }

    private static void ordinary() {
        Run.of("without lines",
                "settle(): 0", "told(0, 0): 0");
        Run.of("lines without forms fit at once",
                "line(): 0", "aim(0, 1, MIN): -", "line(): 1", "aim(1, 2, MAX): -", "settle(): 0", "wrong(): -1");
        Run.of("one line grows alone, as far as it must",
                "line(): 0", "form(1, 1, 1): 1", "form(2, 4, 1): 2", "form(3, 16, 1): 3", "form(4, 32, 1): 4",
                "aim(0, 1, 100): -", "settle(): 2", "told(0, 1): 2", "told(1, 0): 3", "value(0): 103",
                "aim(0, 0, 0): -", "settle(): 0", "told(0, 1): 0", "told(1, 0): 1", "value(0): 0");
        Run.of("growth of one makes another grow in the next round",
                "line(): 0", "form(1, 2, 0): 1", "form(2, 8, 0): 2",
                "line(): 1", "form(2, 1, 1): 1", "form(3, 8, 1): 2", "aim(0, 2, 0): -", "aim(1, 0, 5): -",
                "settle(): 2", "told(0, 1): 1", "told(1, 1): 1", "told(1, 0): 2", "told(2, 0): 5",
                "value(0): 5", "wrong(): -1");
        Run.of("all that do not fit get their next form in one round",
                "line(): 0", "form(1, 1, 0): 1", "form(2, 8, 0): 2", "aim(0, 0, 9): -",
                "line(): 1", "form(1, 1, 0): 1", "form(3, 8, 0): 2", "aim(1, 0, 9): -",
                "line(): 2", "form(1, 8, 0): 1", "form(5, 8, 0): 2", "aim(2, 0, 9): -",
                "settle(): 1", "told(0, 1): 1", "told(1, 1): 1", "told(2, 1): 0", "told(3, 0): 6");
        Run.of("the addresses of a round hold for all lines of it",
                "line(): 0", "form(1, 1, 0): 1", "form(9, 8, 0): 2", "aim(0, 0, 5): -",
                "line(): 1", "form(1, 1, 0): 1", "form(1, 2, 0): 2", "form(1, 8, 0): 3", "aim(1, 1, 0): -",
                "settle(): 3", "told(1, 1): 2", "value(1): 9");
        Run.of("a form that fits again is not given back",
                "line(): 0", "form(4, 2, 0): 1", "form(1, 8, 0): 2", "aim(0, 1, 0): -",
                "settle(): 1", "told(0, 1): 1", "told(1, 0): 1", "value(0): 1");
        Run.of("settled twice is settled the same",
                "line(): 0", "form(1, 1, 0): 1", "form(2, 8, 0): 2", "aim(0, 1, 7): -",
                "settle(): 1", "settle(): 1", "told(0, 1): 1", "told(1, 0): 2");
        Run.of("each settling begins with the first forms",
                "line(): 0", "form(1, 1, 0): 1", "form(2, 8, 0): 2", "aim(0, 1, 7): -", "settle(): 1",
                "aim(0, 0, 1): -", "settle(): 0", "told(0, 1): 0", "told(1, 0): 1");
        longChain();
    }

    /** Each line names the end of the one behind it, so that one a round grows, from the last to the first. */
    private static void longChain() {
        Run run = new Run("a chain of 100 lines");
        for (int i = 0; i < 100; i++) {
            run.rows("line(): " + i, "form(1, 2, 2): 1", "form(2, 8, 2): 2");
        }
        for (int i = 0; i < 99; i++) {
            run.rows("aim(" + i + ", " + (i + 2) + ", -1): -");
        }
        run.rows("aim(99, 100, 1): -",
                "settle(): 100", "told(0, 1): 1", "told(100, 0): 200", "value(0): 3", "wrong(): -1");
    }

    private static void fitting() {
        fits(1, 0, "0", "1");
        fits(8, 0, "0", "255");
        unfit(1, 0, "-1", "2", "MIN", "MAX");
        unfit(8, 0, "-1", "256");
        fits(31, 0, "0", "MAX");
        unfit(31, 0, "-1", "MIN");
        fits(32, 0, "0", "MAX");
        unfit(32, 0, "-1", "MIN");
        for (int sort = 1; sort <= 2; sort++) {
            fits(1, sort, "-1", "0");
            unfit(1, sort, "-2", "1");
            fits(8, sort, "-128", "127");
            unfit(8, sort, "-129", "128");
            fits(31, sort, "-1073741824", "1073741823");
            unfit(31, sort, "-1073741825", "1073741824");
            fits(32, sort, "MIN", "MAX");
        }
        Run.of("values beyond an int",
                "line(): 0", "form(1, 32, 0): 1", "aim(0, 1, MAX): -", "settle(): 0", "value(0): 2147483648",
                "line(): 1", "form(1, 32, 1): 1", "aim(1, 2, MAX): -",
                "settle(): throws.UnsupportedOperationException", "wrong(): 1", "value(1): 2147483649",
                "line(): 2", "form(1, 31, 0): 1", "aim(1, 0, 0): -", "aim(2, 2, MAX): -",
                "settle(): throws.UnsupportedOperationException", "wrong(): 2", "value(2): 2147483649",
                "line(): 3", "form(1, 32, 2): 1", "aim(2, 0, 0): -", "aim(3, 0, MIN): -",
                "settle(): throws.UnsupportedOperationException", "wrong(): 3", "value(3): -2147483651");
    }

    private static void fits(int bits, int sort, String... values) {
        Run run = new Run("fits " + bits + " bits of sort " + sort)
                .rows("line(): 0", "form(1, " + bits + ", " + sort + "): 1");
        for (String value : values) {
            run.rows("aim(0, 0, " + value + "): -", "settle(): 0", "told(0, 2): 1", "wrong(): -1");
        }
    }

    private static void unfit(int bits, int sort, String... values) {
        Run run = new Run("does not fit " + bits + " bits of sort " + sort)
                .rows("line(): 0", "form(1, " + bits + ", " + sort + "): 1");
        for (String value : values) {
            run.rows("aim(0, 0, " + value + "): -", "settle(): throws.UnsupportedOperationException",
                    "told(0, 2): 0", "wrong(): 0");
        }
    }

    private static void endAbove4096() {
        new Run("the end at 4096 and above it").lines(0, 64, "form(64, 8, 0)").rows(
                "settle(): 0", "told(64, 0): 4096", "told(63, 0): 4032",
                "line(): 64", "settle(): 0", "told(65, 0): 4096",
                "form(1, 8, 0): 1", "settle(): throws.IllegalStateException",
                "told(65, 0): 4097", "told(64, 0): 4096", "told(64, 1): 0", "told(64, 2): 1",
                "value(64): 0", "wrong(): -1");
        new Run("the end above 4096 by far").lines(0, 120, "form(64, 8, 0)").rows(
                "settle(): throws.IllegalStateException", "told(120, 0): 7680", "told(119, 0): 7616", "wrong(): -1");
        new Run("the end above 4096 comes before a line without a next form")
                .lines(0, 64, "form(64, 8, 0)").rows(
                "line(): 64", "form(1, 1, 0): 1", "aim(64, 0, 2): -",
                "settle(): throws.IllegalStateException", "wrong(): 64", "told(64, 2): 0");
        new Run("the end above 4096 in a later round: it stays as it was then")
                .lines(0, 63, "form(64, 8, 0)").rows(
                "line(): 63", "form(32, 1, 0): 1", "form(64, 2, 0): 2", "form(1, 8, 0): 3", "aim(63, 0, 9): -",
                "line(): 64", "form(1, 1, 0): 1", "form(2, 8, 0): 2", "aim(64, 0, 9): -",
                "settle(): throws.IllegalStateException",
                "told(63, 1): 1", "told(64, 1): 1", "told(64, 0): 4096", "told(65, 0): 4098",
                "told(63, 2): 0", "told(64, 2): 1", "wrong(): 63");
        new Run("the end above 4096 at once, though the next forms were smaller")
                .lines(0, 64, "form(64, 8, 0)").rows(
                "line(): 64", "form(64, 1, 0): 1", "form(1, 8, 0): 2", "aim(64, 0, 9): -",
                "settle(): throws.IllegalStateException", "told(64, 1): 0", "told(65, 0): 4160",
                "settle(): throws.IllegalStateException",
                "clear(): 65", "settle(): 0");
    }

    private static void noNextForm() {
        Run.of("none gets a next form in the round that throws",
                "line(): 0", "form(1, 1, 0): 1", "form(2, 8, 0): 2", "aim(0, 0, 9): -",
                "line(): 1", "form(1, 1, 0): 1", "aim(1, 0, 9): -",
                "line(): 2", "form(1, 1, 0): 1", "form(2, 8, 0): 2", "aim(2, 0, 9): -",
                "settle(): throws.UnsupportedOperationException",
                "told(0, 1): 0", "told(1, 1): 0", "told(2, 1): 0", "told(3, 0): 3",
                "told(0, 2): 0", "told(1, 2): 0", "wrong(): 0", "value(2): 9");
        Run.of("what grew in the rounds before stays",
                "line(): 0", "form(1, 1, 0): 1", "form(2, 8, 0): 2", "aim(0, 0, 9): -",
                "line(): 1", "form(1, 1, 0): 1", "form(5, 2, 0): 2", "aim(1, 0, 9): -",
                "settle(): throws.UnsupportedOperationException",
                "told(0, 1): 1", "told(1, 1): 1", "told(1, 0): 2", "told(2, 0): 7", "wrong(): 1");
        Run.of("a last form that fits throws nothing",
                "line(): 0", "form(1, 1, 0): 1", "form(1, 1, 0): 2", "form(1, 1, 0): 3", "form(1, 4, 0): 4",
                "aim(0, 0, 15): -", "settle(): 3",
                "aim(0, 0, 16): -", "settle(): throws.UnsupportedOperationException", "told(0, 1): 3");
        Run.of("a settling that throws settles all the same, until the next change",
                "line(): 0", "form(1, 1, 0): 1", "aim(0, 0, 2): -",
                "wrong(): throws.IllegalStateException",
                "settle(): throws.UnsupportedOperationException", "wrong(): 0",
                "aim(0, 0, 1): -", "wrong(): throws.IllegalStateException", "settle(): 0", "wrong(): -1");
    }
}
