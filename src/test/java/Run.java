import java.util.List;

/**
 * A run of calls on a new object, each row with the answer that is due: "told(0, 1): -1",
 * "aim(0, 1, 5): -" for a call without an answer, "line(): throws.IllegalStateException".
 */
final class Run {
    /** What later calls on one object answer is free. */
    private static final int MOST_CALLS = 512;

    private static int wrong = 0;
    private static int calls = 0;

    private final String name;
    private final GrowForms x = new GrowForms();
    private int row = 0;

    Run(String name) {
        this.name = name;
    }

    static Run of(String name, String... rows) {
        return new Run(name).rows(rows);
    }

    Run rows(String... rows) {
        return rows(List.of(rows));
    }

    Run rows(List<String> rows) {
        for (String text : rows) {
            check(text);
        }
        return this;
    }

    /** The answer of a call for which no answer is due yet. */
    String answer(String call) {
        row++;
        if (row > MOST_CALLS) {
            throw new AssertionError(name + ": more than " + MOST_CALLS + " calls");
        }
        int open = call.indexOf('(');
        int close = call.indexOf(')');
        return Calls.answer(x, call.substring(0, open), arguments(call.substring(open + 1, close)));
    }

    /** count lines, from number first on, each with the one form. */
    Run lines(int first, int count, String form) {
        for (int i = first; i < first + count; i++) {
            rows("line(): " + i, form + ": 1");
        }
        return this;
    }

    /** count lines without forms, from number first on. */
    Run bareLines(int first, int count) {
        for (int i = first; i < first + count; i++) {
            rows("line(): " + i);
        }
        return this;
    }

    /** Says how the test went, and ends it with exit code 1 if an answer was wrong. */
    static void end() {
        System.out.println(wrong == 0 ? calls + " answers are as due" : wrong + " answers are not as due");
        if (wrong != 0) {
            System.exit(1);
        }
    }

    private void check(String text) {
        String due = text.substring(text.indexOf(')') + 1).replaceFirst("^:\\s*", "");
        String got = answer(text);
        calls++;
        if (!got.equals(due)) {
            wrong++;
            System.out.println(name + ", row " + row + ": " + text + " is due, answered " + got);
        }
    }

    private static int[] arguments(String list) {
        if (list.isBlank()) {
            return new int[0];
        }
        String[] parts = list.split(",");
        int[] numbers = new int[parts.length];
        for (int i = 0; i < parts.length; i++) {
            numbers[i] = number(parts[i].trim());
        }
        return numbers;
    }

    private static int number(String text) {
        switch (text) {
            case "MIN":
                return Integer.MIN_VALUE;
            case "MAX":
                return Integer.MAX_VALUE;
            default:
                return Integer.parseInt(text);
        }
    }
}
