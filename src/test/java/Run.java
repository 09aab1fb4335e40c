/**
 * A run of calls on a new object, each row with the answer that is due: "told(0, 1): -1",
 * "aim(0, 1, 5): -" for a call without an answer, "line(): throws.IllegalStateException".
 */
final class Run {
    private static int wrong = 0;
    private static int calls = 0;

    private final String name;
    private final GrowForms x = new GrowForms();
    private int row = 0;

    Run(String name) {
        this.name = name;
    }

    static void of(String name, String... rows) {
        new Run(name).rows(rows);
    }

    Run rows(String... rows) {
        for (String text : rows) {
            row++;
            check(text);
        }
        return this;
    }

    /** count lines, from number first on, each with the one form. */
    Run lines(int first, int count, String form) {
        for (int i = first; i < first + count; i++) {
            rows("line(): " + i, form + ": 1");
        }
        return this;
    }

    /** count lines without forms, from number first on. */
    Run bareLines(int first, int count) {
        for (int i = first; i < first + count; i++) {
            rows("line(): " + i);
        }
        return this;
    }

    /** Says how the test went, and ends it with exit code 1 if an answer was wrong. */
    static void end() {
        System.out.println(wrong == 0 ? calls + " answers are as due" : wrong + " answers are not as due");
        if (wrong != 0) {
            System.exit(1);
        }
    }

    private void check(String text) {
        int open = text.indexOf('(');
        int close = text.indexOf(')');
        String due = text.substring(close + 1).replaceFirst("^:\\s*", "");
        String got = Calls.answer(x, text.substring(0, open), arguments(text.substring(open + 1, close)));
        calls++;
        if (!got.equals(due)) {
            wrong++;
            System.out.println(name + ", row " + row + ": " + text + " is due, answered " + got);
        }
    }

    private static int[] arguments(String list) {
        if (list.isBlank()) {
            return new int[0];
        }
        String[] parts = list.split(",");
        int[] numbers = new int[parts.length];
        for (int i = 0; i < parts.length; i++) {
            numbers[i] = number(parts[i].trim());
        }
        return numbers;
    }

    private static int number(String text) {
        switch (text) {
            case "MIN":
                return Integer.MIN_VALUE;
            case "MAX":
                return Integer.MAX_VALUE;
            default:
                return Integer.parseInt(text);
        }
    }
}
