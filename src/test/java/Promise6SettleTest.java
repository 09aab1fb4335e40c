public final class Promise6SettleTest {
    public static void main(String[] args) {
        ordinary();
        longChain();
        longestChain();
        fitsOrGrows();
        endAbove4096();
        noNextForm();
        Run.end();
    }

    private static void ordinary() {
        Run.of("without lines",
                "settle(): 0", "told(0, 0): 0");
        Run.of("lines without forms fit at once",
                "line(): 0", "aim(0, 1, MIN): -", "line(): 1", "aim(1, 2, MAX): -", "settle(): 0", "wrong(): -1");
        Run.of("one line grows alone, as far as it must",
                "line(): 0", "form(1, 1, 1): 1", "form(2, 4, 1): 2", "form(3, 16, 1): 3", "form(4, 32, 1): 4",
                "aim(0, 1, 100): -", "settle(): 2", "told(0, 1): 2", "told(1, 0): 3", "value(0): 103",
                "aim(0, 0, 0): -", "settle(): 0", "told(0, 1): 0", "told(1, 0): 1", "value(0): 0");
        Run.of("growth of one makes another grow in the next round",
                "line(): 0", "form(1, 2, 0): 1", "form(2, 8, 0): 2",
                "line(): 1", "form(2, 1, 1): 1", "form(3, 8, 1): 2", "aim(0, 2, 0): -", "aim(1, 0, 5): -",
                "settle(): 2", "told(0, 1): 1", "told(1, 1): 1", "told(1, 0): 2", "told(2, 0): 5",
                "value(0): 5", "wrong(): -1");
        Run.of("all that do not fit get their next form in one round",
                "line(): 0", "form(1, 1, 0): 1", "form(2, 8, 0): 2", "aim(0, 0, 9): -",
                "line(): 1", "form(1, 1, 0): 1", "form(3, 8, 0): 2", "aim(1, 0, 9): -",
                "line(): 2", "form(1, 8, 0): 1", "form(5, 8, 0): 2", "aim(2, 0, 9): -",
                "settle(): 1", "told(0, 1): 1", "told(1, 1): 1", "told(2, 1): 0", "told(3, 0): 6");
        Run.of("the addresses of a round hold for all lines of it",
                "line(): 0", "form(1, 1, 0): 1", "form(9, 8, 0): 2", "aim(0, 0, 5): -",
                "line(): 1", "form(1, 1, 0): 1", "form(1, 2, 0): 2", "form(1, 8, 0): 3", "aim(1, 1, 0): -",
                "settle(): 3", "told(1, 1): 2", "value(1): 9");
        Run.of("a form that fits again is not given back",
                "line(): 0", "form(4, 2, 0): 1", "form(1, 8, 0): 2", "aim(0, 1, 0): -",
                "settle(): 1", "told(0, 1): 1", "told(1, 0): 1", "value(0): 1");
        Run.of("nor while others still grow",
                "line(): 0", "form(1, 2, 0): 1", "form(1, 8, 0): 2",
                "line(): 1", "form(4, 1, 0): 1", "form(1, 4, 0): 2", "form(2, 8, 0): 3",
                "aim(0, 2, 0): -", "aim(1, 0, 20): -",
                "settle(): 2", "told(0, 1): 1", "told(1, 1): 2", "told(2, 0): 3", "value(0): 3");
        Run.of("settled twice is settled the same",
                "line(): 0", "form(1, 1, 0): 1", "form(2, 8, 0): 2", "aim(0, 1, 7): -",
                "settle(): 1", "settle(): 1", "told(0, 1): 1", "told(1, 0): 2");
        Run.of("each settling begins with the first forms",
                "line(): 0", "form(1, 1, 0): 1", "form(2, 8, 0): 2", "aim(0, 1, 7): -", "settle(): 1",
                "aim(0, 0, 1): -", "settle(): 0", "told(0, 1): 0", "told(1, 0): 1");
    }

    /** Each line names the end of the one behind it, so that one a round grows, from the last to the first. */
    private static void longChain() {
        Run run = new Run("a chain of 120 lines");
        for (int i = 0; i < 120; i++) {
            run.rows("line(): " + i, "form(1, 2, 2): 1", "form(2, 8, 2): 2");
        }
        for (int i = 0; i < 119; i++) {
            run.rows("aim(" + i + ", " + (i + 2) + ", -1): -");
        }
        run.rows("aim(119, 120, 1): -",
                "settle(): 120", "told(0, 1): 1", "told(120, 0): 240", "value(0): 3", "wrong(): -1");
    }

    /** Three such chains on the same lines: the end tells the last line when one is through and the next begins. */
    private static void longestChain() {
        Run run = new Run("a chain that runs three times through as many lines as 512 calls can make");
        for (int i = 0; i < 84; i++) {
            run.rows("line(): " + i, "form(1, 3, 2): 1", "form(3, 4, 2): 2", "form(6, 5, 2): 3", "form(9, 8, 2): 4");
        }
        run.rows("line(): 84", "form(1, 1, 2): 1", "form(3, 8, 0): 2", "form(6, 9, 0): 3", "form(9, 16, 0): 4");
        for (int i = 0; i < 84; i++) {
            run.rows("aim(" + i + ", " + (i + 2) + ", 1): -");
        }
        run.rows("aim(84, 85, 2): -", "settle(): 255", "told(85, 0): 765");
    }

    /** With the value that the first form just holds no round is needed, with the next one a round. */
    private static void fitsOrGrows() {
        for (String[] edge : new String[][] {
            {"1, 0", "1", "2"}, {"1, 0", "0", "-1"}, {"8, 0", "255", "256"}, {"8, 0", "0", "-1"},
            {"1, 1", "0", "1"}, {"1, 1", "-1", "-2"}, {"8, 1", "127", "128"}, {"8, 1", "-128", "-129"},
            {"1, 2", "0", "1"}, {"1, 2", "-1", "-2"}, {"8, 2", "127", "128"}, {"8, 2", "-128", "-129"},
            {"31, 1", "1073741823", "1073741824"}, {"31, 0", "0", "MIN"},
        }) {
            Run.of("those that do not fit get their next form: " + edge[0],
                    "line(): 0", "form(1, " + edge[0] + "): 1", "form(2, 32, 1): 2",
                    "aim(0, 0, " + edge[1] + "): -", "settle(): 0", "told(0, 1): 0", "told(0, 2): 1", "told(1, 0): 1",
                    "aim(0, 0, " + edge[2] + "): -", "settle(): 1", "told(0, 1): 1", "told(0, 2): 1", "told(1, 0): 2");
        }
    }

    private static void endAbove4096() {
        new Run("the end at 4096 and above it").lines(0, 64, "form(64, 8, 0)").rows(
                "settle(): 0", "told(64, 0): 4096", "told(63, 0): 4032",
                "line(): 64", "settle(): 0", "told(65, 0): 4096",
                "form(1, 8, 0): 1", "settle(): throws.IllegalStateException",
                "told(65, 0): 4097", "told(64, 0): 4096", "told(64, 1): 0", "told(64, 2): 1",
                "value(64): 0", "wrong(): -1");
        new Run("the end at 4096 and above it by growth").lines(0, 63, "form(64, 8, 0)").rows(
                "line(): 63", "form(62, 1, 0): 1", "form(63, 8, 0): 2", "aim(63, 0, 9): -",
                "line(): 64", "form(1, 8, 0): 1",
                "settle(): 1", "told(65, 0): 4096", "told(63, 1): 1", "wrong(): -1",
                "line(): 65", "form(1, 8, 0): 1",
                "settle(): throws.IllegalStateException", "told(66, 0): 4097", "told(63, 1): 1", "wrong(): -1");
        new Run("the end above 4096 by far").lines(0, 120, "form(64, 8, 0)").rows(
                "settle(): throws.IllegalStateException", "told(120, 0): 7680", "told(119, 0): 7616", "wrong(): -1");
        new Run("the end above 4096 comes before a line without a next form")
                .lines(0, 64, "form(64, 8, 0)").rows(
                "line(): 64", "form(1, 1, 0): 1", "aim(64, 0, 2): -",
                "settle(): throws.IllegalStateException", "wrong(): 64", "told(64, 2): 0");
        new Run("the end above 4096 in a later round: each line has the form and address that it had then").rows(
                "line(): 0", "form(62, 1, 0): 1", "form(64, 2, 0): 2", "form(1, 8, 0): 3", "aim(0, 0, 9): -")
                .lines(1, 63, "form(64, 8, 0)").rows(
                "line(): 64", "form(1, 1, 0): 1", "form(2, 8, 0): 2", "aim(64, 0, 9): -",
                "settle(): throws.IllegalStateException",
                "told(0, 1): 1", "told(0, 2): 0", "told(1, 0): 64", "told(63, 1): 0",
                "told(64, 0): 4096", "told(64, 1): 1", "told(64, 2): 1", "told(65, 0): 4098",
                "value(0): 9", "wrong(): 0",
                "form(1, 8, 0): 3", "settle(): throws.IllegalStateException", "told(0, 1): 1");
        new Run("the end above 4096 at once, though the next forms were smaller")
                .lines(0, 64, "form(64, 8, 0)").rows(
                "line(): 64", "form(64, 1, 0): 1", "form(1, 8, 0): 2", "aim(64, 0, 9): -",
                "settle(): throws.IllegalStateException", "told(64, 1): 0", "told(65, 0): 4160",
                "settle(): throws.IllegalStateException",
                "clear(): 65", "settle(): 0");
    }

    private static void noNextForm() {
        Run.of("none gets a next form in the round that throws",
                "line(): 0", "form(1, 1, 0): 1", "form(2, 8, 0): 2", "aim(0, 0, 9): -",
                "line(): 1", "form(1, 1, 0): 1", "aim(1, 0, 9): -",
                "line(): 2", "form(1, 1, 0): 1", "form(2, 8, 0): 2", "aim(2, 0, 9): -",
                "settle(): throws.UnsupportedOperationException",
                "told(0, 1): 0", "told(1, 1): 0", "told(2, 1): 0", "told(3, 0): 3",
                "told(0, 2): 0", "told(1, 2): 0", "wrong(): 0", "value(2): 9");
        Run.of("what grew in the rounds before stays",
                "line(): 0", "form(1, 1, 0): 1", "form(2, 8, 0): 2", "aim(0, 0, 9): -",
                "line(): 1", "form(1, 1, 0): 1", "form(5, 2, 0): 2", "aim(1, 0, 9): -",
                "settle(): throws.UnsupportedOperationException",
                "told(0, 1): 1", "told(1, 1): 1", "told(1, 0): 2", "told(2, 0): 7", "wrong(): 1");
        for (int forms = 1; forms <= 4; forms++) {
            theLastOf(forms);
        }
        Run.of("all fit but the last line, which has no next form",
                "line(): 0", "form(1, 8, 0): 1", "form(1, 8, 0): 2",
                "line(): 1", "form(1, 8, 0): 1", "form(1, 8, 0): 2",
                "line(): 2", "form(1, 8, 0): 1", "aim(2, 0, -1): -",
                "settle(): throws.UnsupportedOperationException", "wrong(): 2", "told(0, 1): 0", "told(1, 1): 0");
        Run.of("a settling that throws settles all the same, until the next change",
                "line(): 0", "form(1, 1, 0): 1", "aim(0, 0, 2): -",
                "wrong(): throws.IllegalStateException",
                "settle(): throws.UnsupportedOperationException", "wrong(): 0",
                "aim(0, 0, 1): -", "wrong(): throws.IllegalStateException", "settle(): 0", "wrong(): -1");
    }

    /** The last form just holds what the line names, or just does not. */
    private static void theLastOf(int forms) {
        Run run = new Run("a line that does not fit has no next form: of " + forms).rows("line(): 0");
        for (int i = 1; i < forms; i++) {
            run.rows("form(" + i + ", 1, 0): " + i);
        }
        run.rows("form(" + forms + ", 4, 0): " + forms,
                "aim(0, 0, 15): -", "settle(): " + (forms - 1), "told(0, 1): " + (forms - 1), "told(0, 2): 1",
                "told(1, 0): " + forms,
                "aim(0, 0, 16): -", "settle(): throws.UnsupportedOperationException",
                "told(0, 1): " + (forms - 1), "told(0, 2): 0", "told(1, 0): " + forms, "value(0): 16");
    }
}
