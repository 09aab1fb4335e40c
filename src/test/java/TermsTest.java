/** The boundaries that the document's "Terms" name, each on both of its sides. */
public final class TermsTest {
    public static void main(String[] args) {
        atMost120Lines();
        upTo4Forms();
        sizeBitsAndSort();
        theEnd();
        lineWithoutForms();
        for (int bits = 1; bits <= 32; bits++) {
            for (int sort = 0; sort <= 2; sort++) {
                fits(bits, sort);
            }
        }
        greatestAndLeastValue();
        Run.end();
    }

    private static void atMost120Lines() {
        new Run("LINES 0, 1, .. (at most 120)").bareLines(0, 118).rows(
                "line(): 118", "line(): 119", "line(): throws.IllegalStateException",
                "settle(): 0", "told(119, 1): -1", "told(120, 1): throws.IndexOutOfBoundsException",
                "told(120, 0): 0", "told(121, 0): throws.IndexOutOfBoundsException",
                "value(119): 0", "value(120): throws.IndexOutOfBoundsException", "clear(): 120");
    }

    private static void upTo4Forms() {
        Run run = new Run("up to 4 FORMS each");
        for (int line = 0; line < 100; line++) {
            run.rows("line(): " + line, "form(1, 8, 0): 1");
            if (line % 33 == 0) {
                run.rows("form(1, 8, 0): 2", "form(1, 8, 0): 3", "form(1, 8, 0): 4",
                        "form(1, 8, 0): throws.IllegalStateException");
            }
        }
        run.rows("settle(): 0", "told(99, 1): 0", "told(100, 0): 100");
        Run last = new Run("up to 4 FORMS of the last line that there may be").bareLines(0, 120);
        last.rows("form(2, 1, 0): 1", "form(3, 2, 0): 2", "form(4, 3, 0): 3", "form(5, 4, 0): 4",
                "form(6, 5, 0): throws.IllegalStateException",
                "aim(119, 0, 15): -", "settle(): 3", "told(119, 1): 3", "told(120, 0): 5",
                "aim(119, 0, 16): -", "settle(): throws.UnsupportedOperationException", "told(119, 1): 3");
    }

    private static void sizeBitsAndSort() {
        Run.of("SIZE (1 to 64)",
                "line(): 0", "form(0, 8, 0): throws.IllegalArgumentException", "form(1, 8, 0): 1",
                "settle(): 0", "told(1, 0): 1",
                "line(): 1", "form(65, 8, 0): throws.IllegalArgumentException", "form(64, 8, 0): 1",
                "settle(): 0", "told(2, 0): 65");
        Run.of("BITS (1 to 32)",
                "line(): 0", "form(1, 0, 0): throws.IllegalArgumentException", "form(1, 1, 0): 1",
                "aim(0, 0, 1): -", "settle(): 0", "aim(0, 0, 2): -", "settle(): throws.UnsupportedOperationException",
                "form(1, 33, 0): throws.IllegalArgumentException", "form(1, 32, 0): 2",
                "aim(0, 1, MAX): -", "settle(): 1", "value(0): 2147483648");
        Run.of("a SORT: 0 without sign, 1 with sign, 2 with sign and from its LINE",
                "line(): 0", "form(10, 8, 0): 1",
                "line(): 1", "form(1, 4, -1): throws.IllegalArgumentException",
                "form(1, 4, 3): throws.IllegalArgumentException",
                "form(1, 4, 0): 1", "form(1, 4, 1): 2", "form(1, 4, 2): 3",
                "aim(1, 0, 15): -", "settle(): 0", "value(1): 15",
                "aim(1, 0, -1): -", "settle(): 1", "value(1): -1",
                "aim(1, 0, 16): -", "settle(): 2", "value(1): 6");
    }

    private static void theEnd() {
        Run.of("the END is the number behind the last LINE",
                "settle(): 0", "told(0, 0): 0", "told(1, 0): throws.IndexOutOfBoundsException",
                "line(): 0", "form(2, 8, 0): 1",
                "aim(0, 2, 0): throws.IndexOutOfBoundsException", "aim(0, 1, 0): -",
                "settle(): 0", "told(1, 0): 2", "told(2, 0): throws.IndexOutOfBoundsException", "value(0): 2");
        Run.of("with a further LINE that number is this one's",
                "line(): 0", "form(2, 8, 0): 1", "aim(0, 1, 0): -",
                "line(): 1", "form(3, 8, 0): 1", "settle(): 0", "value(0): 2", "told(1, 0): 2", "told(2, 0): 5",
                "aim(0, 2, 0): -", "settle(): 0", "value(0): 5",
                "line(): 2", "form(7, 8, 0): 1", "settle(): 0", "value(0): 5", "told(2, 0): 5", "told(3, 0): 12",
                "aim(0, 3, 0): -", "settle(): 0", "value(0): 12");
        Run.of("the END is not kept as a TARGET by clear",
                "line(): 0", "form(9, 8, 0): 1", "aim(0, 1, 0): -", "settle(): 0", "value(0): 9", "clear(): 1",
                "line(): 0", "form(9, 8, 0): 1", "settle(): 0", "value(0): 0");
        new Run("the END behind 120 LINES").bareLines(0, 119).rows(
                "aim(118, 119, 1): -", "aim(118, 120, 1): throws.IndexOutOfBoundsException",
                "line(): 119", "form(6, 8, 0): 1", "settle(): 0", "value(118): 1",
                "aim(118, 120, 1): -", "aim(118, 121, 1): throws.IndexOutOfBoundsException",
                "settle(): 0", "value(118): 7", "told(120, 0): 6");
    }

    private static void lineWithoutForms() {
        Run.of("ADDRESSES: LINE 0 has 0, each other one that of the LINE before and the SIZE of its FORM (0 without FORMS)",
                "line(): 0", "line(): 1", "form(5, 8, 0): 1", "line(): 2", "line(): 3", "line(): 4", "form(64, 8, 0): 1",
                "settle(): 0", "told(0, 0): 0", "told(1, 0): 0", "told(2, 0): 5", "told(3, 0): 5", "told(4, 0): 5",
                "told(5, 0): 69",
                "line(): 5", "settle(): 0", "told(5, 0): 69", "told(6, 0): 69");
        Run.of("a LINE without FORMS fits",
                "line(): 0", "form(64, 8, 0): 1", "line(): 1",
                "aim(1, 0, MIN): -", "settle(): 0", "told(1, 2): 1", "value(1): -2147483648",
                "aim(1, 2, MAX): -", "settle(): 0", "told(1, 2): 1", "value(1): 2147483711", "wrong(): -1",
                "form(1, 32, 1): 1", "settle(): throws.UnsupportedOperationException", "told(1, 2): 0", "wrong(): 1");
        Run.of("a LINE without FORMS has a VALUE that is not from its LINE",
                "line(): 0", "form(64, 8, 0): 1", "line(): 1", "aim(1, 1, -4): -", "settle(): 0", "value(1): 60",
                "form(1, 8, 2): 1", "settle(): 0", "value(1): -4");
    }

    /** 0 to 2^BITS - 1, or what BITS with sign hold: the outermost that fit, and their neighbours that do not. */
    private static void fits(int bits, int sort) {
        long least = sort == 0 ? 0 : -(1L << (bits - 1));
        long greatest = (sort == 0 ? 1L << bits : 1L << (bits - 1)) - 1;
        Run run = new Run("it FITS into " + bits + " BITS of SORT " + sort).rows(
                "line(): 0", "form(1, 8, 0): 1", "line(): 1", "form(1, " + bits + ", " + sort + "): 1");
        valueIs(run, sort, least - 1, false);
        valueIs(run, sort, least, true);
        valueIs(run, sort, greatest, true);
        valueIs(run, sort, greatest + 1, false);
    }

    /** LINE 1 at ADDRESS 1 gets the VALUE by LINE 0 or by the END at 2; some of 32 bits is out of reach of both. */
    private static void valueIs(Run run, int sort, long value, boolean fits) {
        int own = sort == 2 ? 1 : 0;
        for (int target = 0; target <= 2; target += 2) {
            long offset = value - target + own;
            if (offset == (int) offset) {
                run.rows("aim(1, " + target + ", " + offset + "): -",
                        "settle(): " + (fits ? "0" : "throws.UnsupportedOperationException"),
                        "value(1): " + value, "told(1, 2): " + (fits ? 1 : 0), "wrong(): " + (fits ? -1 : 1));
            }
        }
    }

    private static void greatestAndLeastValue() {
        new Run("the greatest VALUE fits into 32 BITS without sign alone").lines(0, 63, "form(64, 8, 0)").rows(
                "line(): 63", "form(64, 31, 0): 1", "form(64, 32, 1): 2", "form(64, 32, 2): 3", "form(64, 32, 0): 4",
                "aim(63, 64, MAX): -", "settle(): 3", "value(63): 2147487743", "told(63, 2): 1",
                "aim(63, 0, MAX): -", "settle(): 0", "value(63): 2147483647",
                "aim(63, 1, MAX): -", "settle(): 2", "value(63): 2147479679");
        new Run("a VALUE of -2^31 - 4032 fits into no FORM").lines(0, 63, "form(64, 8, 0)").rows(
                "line(): 63", "form(64, 32, 2): 1", "aim(63, 0, MIN): -",
                "settle(): throws.UnsupportedOperationException", "value(63): -2147487680", "told(63, 2): 0");
    }
}
