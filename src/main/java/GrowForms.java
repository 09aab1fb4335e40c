/** Lines whose forms grow until what they name can be reached. */
public final class GrowForms {
    private static final int MOST_LINES = 120;
    private static final int MOST_FORMS = 4;
    private static final int MOST_SIZE = 64;
    private static final int MOST_BITS = 32;
    private static final int HIGHEST_END = 4096;

    /** Each round but the last moves a line on, and a line moves on at most three times. */
    private static final int MOST_ROUNDS = MOST_LINES * (MOST_FORMS - 1);

    private static final int WITHOUT_SIGN = 0;
    private static final int FROM_ITS_LINE = 2;

    private static final int ADDRESS = 0;
    private static final int WHICH_FORM = 1;
    private static final int FITS = 2;

    private static final int NONE = -1;

    /** The forms of all lines in one row each, MOST_FORMS places for a line. */
    private final int[] sizes = new int[MOST_LINES * MOST_FORMS];
    private final int[] bitCounts = new int[MOST_LINES * MOST_FORMS];
    private final int[] sorts = new int[MOST_LINES * MOST_FORMS];

    private final int[] formCounts = new int[MOST_LINES];
    private final int[] offsets = new int[MOST_LINES];

    /** Kept as bare numbers, so that an aim at the end becomes one at the next line made. */
    private final int[] targets = new int[MOST_LINES];

    /** What the latest settling found: the form that each line has, or NONE. */
    private final int[] chosen = new int[MOST_LINES];

    /** One place more than there are lines: the end has an address too. */
    private final int[] addresses = new int[MOST_LINES + 1];

    private int lineCount = 0;
    private boolean settled = false;

    public GrowForms() {
    }

    public int line() throws IllegalStateException {
        if (lineCount >= MOST_LINES) {
            throw new IllegalStateException("there are 120 lines");
        }
        int made = lineCount;
        formCounts[made] = 0;
        targets[made] = 0;
        offsets[made] = 0;
        lineCount = made + 1;
        settled = false;
        return made;
    }

    public int form(int size, int bits, int sort) throws IllegalArgumentException, IllegalStateException {
        if (!isForm(size, bits, sort)) {
            throw new IllegalArgumentException("no form has such numbers");
        }
        if (lineCount == 0) {
            throw new IllegalStateException("there is no line");
        }
        int last = lineCount - 1;
        if (formCounts[last] >= MOST_FORMS) {
            throw new IllegalStateException("the last line has 4 forms");
        }
        int place = placeOf(last, formCounts[last]);
        sizes[place] = size;
        bitCounts[place] = bits;
        sorts[place] = sort;
        formCounts[last]++;
        settled = false;
        return formCounts[last];
    }

    public void aim(int line, int t, int offset) throws IndexOutOfBoundsException {
        if (!isLine(line) || !isLineOrEnd(t)) {
            throw new IndexOutOfBoundsException("no such line or target");
        }
        targets[line] = t;
        offsets[line] = offset;
        settled = false;
    }

    public int clear() {
        int had = lineCount;
        lineCount = 0;
        settled = false;
        return had;
    }

    public int settle() throws IllegalStateException, UnsupportedOperationException {
        // Set before anything is thrown: a settling that throws settles all the same.
        settled = true;
        takeFirstForms();
        for (int rounds = 0; rounds <= MOST_ROUNDS; rounds++) {
            giveAddresses();
            if (addresses[lineCount] > HIGHEST_END) {
                throw new IllegalStateException("the end is above 4096");
            }
            if (leastUnfit() == NONE) {
                return rounds;
            }
            if (someUnfitHasNoNext()) {
                throw new UnsupportedOperationException("a line has no form that fits");
            }
            moveUnfitOn();
        }
        // Never reached: after MOST_ROUNDS every line has its last form.
        return MOST_ROUNDS;
    }

    public int told(int line, int what)
            throws IllegalStateException, IndexOutOfBoundsException, IllegalArgumentException {
        if (what != ADDRESS && what != WHICH_FORM && what != FITS) {
            throw new IllegalArgumentException("what is 0, 1 or 2");
        }
        if (!settled) {
            throw new IllegalStateException("not settled");
        }
        if (!isLine(line) && !(what == ADDRESS && isLineOrEnd(line))) {
            throw new IndexOutOfBoundsException("no such line");
        }
        if (what == ADDRESS) {
            return addresses[line];
        }
        if (what == WHICH_FORM) {
            return chosen[line];
        }
        return isFitting(line) ? 1 : 0;
    }

    public long value(int line) throws IllegalStateException, IndexOutOfBoundsException {
        if (!settled) {
            throw new IllegalStateException("not settled");
        }
        if (!isLine(line)) {
            throw new IndexOutOfBoundsException("no such line");
        }
        return valueOf(line);
    }

    public int wrong() throws IllegalStateException {
        if (!settled) {
            throw new IllegalStateException("not settled");
        }
        return leastUnfit();
    }

    private static boolean isForm(int size, int bits, int sort) {
        return size >= 1 && size <= MOST_SIZE
                && bits >= 1 && bits <= MOST_BITS
                && sort >= WITHOUT_SIGN && sort <= FROM_ITS_LINE;
    }

    private boolean isLine(int number) {
        return number >= 0 && number < lineCount;
    }

    private boolean isLineOrEnd(int number) {
        return number >= 0 && number <= lineCount;
    }

    private static int placeOf(int line, int form) {
        return line * MOST_FORMS + form;
    }

    private void takeFirstForms() {
        for (int line = 0; line < lineCount; line++) {
            chosen[line] = formCounts[line] == 0 ? NONE : 0;
        }
    }

    private void giveAddresses() {
        addresses[0] = 0;
        for (int line = 0; line < lineCount; line++) {
            addresses[line + 1] = addresses[line] + sizeOf(line);
        }
    }

    private int sizeOf(int line) {
        return chosen[line] == NONE ? 0 : sizes[placeOf(line, chosen[line])];
    }

    private int leastUnfit() {
        for (int line = 0; line < lineCount; line++) {
            if (!isFitting(line)) {
                return line;
            }
        }
        return NONE;
    }

    private boolean someUnfitHasNoNext() {
        for (int line = 0; line < lineCount; line++) {
            if (chosen[line] + 1 >= formCounts[line] && !isFitting(line)) {
                return true;
            }
        }
        return false;
    }

    /** One after the other is as good as all at once: addresses stay until all have moved. */
    private void moveUnfitOn() {
        for (int line = 0; line < lineCount; line++) {
            if (!isFitting(line)) {
                chosen[line]++;
            }
        }
    }

    private long valueOf(int line) {
        long reached = (long) addresses[targets[line]] + offsets[line];
        return isFromItsLine(line) ? reached - addresses[line] : reached;
    }

    private boolean isFromItsLine(int line) {
        return chosen[line] != NONE && sorts[placeOf(line, chosen[line])] == FROM_ITS_LINE;
    }

    private boolean isFitting(int line) {
        if (chosen[line] == NONE) {
            return true;
        }
        int place = placeOf(line, chosen[line]);
        long value = valueOf(line);
        if (sorts[place] == WITHOUT_SIGN) {
            return value >= 0 && value < 1L << bitCounts[place];
        }
        long half = 1L << (bitCounts[place] - 1);
        return value >= -half && value < half;
    }
}
