import java.util.ArrayList;
import java.util.Collections;
import java.util.List;

/**
 * "A call that throws changes nothing, but settle as it says": two objects come to the same state, one of them
 * gets a call that throws as well, and from there on both answer alike, whatever is asked and changed.
 */
public final class RefusedCallsTest {
    private static final String STATE = ": throws.IllegalStateException";
    private static final String ARGUMENT = ": throws.IllegalArgumentException";
    private static final String INDEX = ": throws.IndexOutOfBoundsException";

    /** Offsets that lead a line through its forms, so that each form shows its numbers. */
    private static final int[] SWEEP = {0, -1, -3, -20, 1, 2, 5, 12, 40, 100, 300, Integer.MAX_VALUE};

    private static final List<String> THREE_LINES = List.of(
            "line(): 0", "form(2, 2, 0): 1", "form(3, 8, 0): 2",
            "line(): 1",
            "line(): 2", "form(4, 4, 2): 1", "form(5, 6, 2): 2",
            "aim(0, 3, 1): -", "aim(1, 2, -9): -", "aim(2, 0, 1): -");

    private static final List<String> FOUR_FORMS = List.of(
            "line(): 0", "form(2, 2, 0): 1", "form(3, 4, 1): 2", "form(4, 6, 2): 3", "form(5, 8, 0): 4", "aim(0, 1, 3): -");

    private static final List<String> NO_NEXT_FORM = List.of(
            "line(): 0", "form(2, 1, 0): 1", "form(3, 8, 0): 2", "form(4, 9, 0): 3", "aim(0, 0, 9): -",
            "line(): 1", "form(4, 1, 1): 1", "form(5, 2, 1): 2", "aim(1, 0, 9): -");

    private final String name;
    private final int lines;
    private final List<String> rows;
    private final String settling;
    private final String[] full;

    /** full: the calls that throw in this state because there are too many or none of something. */
    private RefusedCallsTest(String name, int lines, List<String> rows, String settling, String... full) {
        this.name = name;
        this.lines = lines;
        this.rows = rows;
        this.settling = settling;
        this.full = full;
    }

    public static void main(String[] args) {
        String noForm = "form(1, 8, 0)" + STATE;
        new RefusedCallsTest("without lines", 0, List.of(), "settle(): 0", noForm).check();
        new RefusedCallsTest("cleared", 0, with(THREE_LINES, "settle(): 1", "clear(): 3"), "settle(): 0", noForm).check();
        new RefusedCallsTest("one bare line", 1, List.of("line(): 0"), "settle(): 0").check();
        new RefusedCallsTest("three lines", 3, THREE_LINES, "settle(): 1").check();
        new RefusedCallsTest("4 forms", 1, FOUR_FORMS, "settle(): 1", noForm).check();
        new RefusedCallsTest("no next form", 2, NO_NEXT_FORM,
                "settle(): throws.UnsupportedOperationException").check();
        new RefusedCallsTest("the end above 4096", 66, above4096(), "settle(): throws.IllegalStateException").check();
        new RefusedCallsTest("120 lines", 120, all120(), "settle(): 1", "line()" + STATE).check();
        Run.end();
    }

    private void check() {
        List<String> unsettled = refused();
        unsettled.addAll(refusedUnsettled());
        List<String> settled = refused();
        settled.addAll(refusedSettled());

        changeNothing("not settled", unsettled, false, rows);
        changeNothing("settled", settled, true, with(rows, settling));
        String change = lines == 0 ? "clear(): 0" : "aim(0, " + lines + ", 3): -";
        changeNothing("changed after that", unsettled, false, with(rows, settling, change));
        settlingChangesNoLine();
    }

    private void changeNothing(String when, List<String> refused, boolean settled, List<String> before) {
        List<String> due = answered(new Run(name).rows(before), later(settled));
        for (String call : refused) {
            String title = name + ", " + when + ", " + call;
            new Run(title).rows(before).rows(call).rows(due);
            if (!settled) {
                new Run(title).rows(before).rows(call, "wrong()" + STATE);
            }
        }
    }

    /** Whether it throws or not: another settling finds the lines as if there had been none before. */
    private void settlingChangesNoLine() {
        List<String> due = answered(new Run(name).rows(rows), later(false));
        new Run(name + ", behind a settling").rows(rows).rows(settling).rows(due);
    }

    private static List<String> answered(Run twin, List<String> calls) {
        List<String> due = new ArrayList<>();
        for (String call : calls) {
            due.add(call + ": " + twin.answer(call));
        }
        return due;
    }

    private List<String> refused() {
        List<String> calls = new ArrayList<>(List.of(full));
        for (String numbers : new String[] {"0, 8, 0", "65, 8, 0", "1, 0, 0", "1, 33, 0", "1, 8, -1", "1, 8, 3"}) {
            calls.add("form(" + numbers + ")" + ARGUMENT);
        }
        int beyond = lines + 1;
        for (String numbers : new String[] {"-1, 0", lines + ", 0", lines + ", " + beyond, "0, -1", "0, " + beyond}) {
            calls.add("aim(" + numbers + ", 77)" + INDEX);
        }
        calls.add("aim(" + (lines - 1) + ", " + beyond + ", 77)" + INDEX);
        for (String numbers : new String[] {"0, -1", "0, 3", "-1, 3", lines + ", -1", beyond + ", 3"}) {
            calls.add("told(" + numbers + ")" + ARGUMENT);
        }
        return calls;
    }

    private List<String> refusedUnsettled() {
        List<String> calls = new ArrayList<>(List.of("wrong()" + STATE));
        for (int number : new int[] {-1, 0, lines - 1, lines, lines + 1}) {
            for (int what = 0; what <= 2; what++) {
                calls.add("told(" + number + ", " + what + ")" + STATE);
            }
            calls.add("value(" + number + ")" + STATE);
        }
        return calls;
    }

    private List<String> refusedSettled() {
        List<String> calls = new ArrayList<>();
        for (int number : new int[] {-1, lines, lines + 1}) {
            for (int what = number == lines ? 1 : 0; what <= 2; what++) {
                calls.add("told(" + number + ", " + what + ")" + INDEX);
            }
            calls.add("value(" + number + ")" + INDEX);
        }
        return calls;
    }

    /** None of them is refused until all has been shown, or the twin would be changed in the same way. */
    private List<String> later(boolean settled) {
        List<String> calls = new ArrayList<>();
        if (settled) {
            calls.addAll(asked(lines));
        }
        calls.add("settle()");
        calls.addAll(asked(lines));
        if (lines > 0) {
            calls.addAll(swept(0));
            calls.addAll(swept(lines - 1));
        }
        Collections.addAll(calls, "line()", "form(6, 7, 1)", "settle()");
        calls.addAll(asked(lines));
        Collections.addAll(calls, "clear()", "line()", "form(1, 8, 0)", "settle()");
        calls.addAll(asked(1));
        return calls;
    }

    private static List<String> asked(int lines) {
        List<String> calls = new ArrayList<>(List.of("wrong()", "told(" + lines + ", 0)"));
        for (int number = 0; number < lines; number += Math.max(1, lines - 1)) {
            for (int what = 0; what <= 2; what++) {
                calls.add("told(" + number + ", " + what + ")");
            }
            calls.add("value(" + number + ")");
        }
        return calls;
    }

    private List<String> swept(int number) {
        List<String> calls = new ArrayList<>();
        for (int offset : SWEEP) {
            Collections.addAll(calls, "aim(" + number + ", " + number + ", " + offset + ")", "settle()",
                    "told(" + lines + ", 0)", "told(" + number + ", 1)", "value(" + number + ")");
        }
        return calls;
    }

    /** The end is below 4097 at first and above it in the next round. */
    private static List<String> above4096() {
        List<String> rows = with(List.of("line(): 0", "form(62, 2, 0): 1", "form(64, 5, 0): 2", "form(61, 8, 0): 3"));
        for (int line = 1; line < 64; line++) {
            Collections.addAll(rows, "line(): " + line, "form(64, 8, 0): 1");
        }
        return with(rows, "line(): 64", "line(): 65", "form(1, 1, 0): 1", "form(2, 4, 0): 2", "form(3, 8, 0): 3",
                "aim(65, 0, 9): -", "aim(0, 0, 20): -");
    }

    private static List<String> all120() {
        List<String> rows = with(List.of("line(): 0", "form(4, 2, 0): 1", "form(5, 6, 0): 2", "form(6, 8, 0): 3"));
        for (int line = 1; line < 120; line++) {
            rows.add("line(): " + line);
        }
        return with(rows, "form(2, 2, 0): 1", "form(3, 5, 2): 2", "form(1, 8, 0): 3",
                "aim(119, 120, 5): -", "aim(0, 120, 2): -");
    }

    private static List<String> with(List<String> rows, String... more) {
        List<String> all = new ArrayList<>(rows);
        Collections.addAll(all, more);
        return all;
    }
}
