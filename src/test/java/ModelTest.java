import java.util.Arrays;
import java.util.Map;
import java.util.Random;
import java.util.TreeMap;

/** Made-up runs on the class and on the model, answer against answer. The seed is fixed: the runs are always the same. */
public final class ModelTest {
    private static final int RUNS = 600;
    private static final int CALLS = 512;

    /** Answers that the runs must have met, or they would say little. */
    private static final String[] MUST_BE_MET = {
        "line throws.IllegalStateException", "form throws.IllegalArgumentException", "form throws.IllegalStateException",
        "aim throws.IndexOutOfBoundsException", "settle throws.IllegalStateException",
        "settle throws.UnsupportedOperationException", "settle 0", "settle 3", "settle 4", "told throws.IllegalStateException",
        "told throws.IndexOutOfBoundsException", "told throws.IllegalArgumentException",
        "value throws.IllegalStateException", "value throws.IndexOutOfBoundsException",
        "wrong throws.IllegalStateException", "wrong -1", "wrong 0", "wrong 7",
    };

    private final Random random;
    private final GrowForms x = new GrowForms();
    private final Model model = new Model();
    private final Map<String, Integer> met;
    private final int run;
    private final int mostSize;
    private final int fewestBits;
    private final int mostOffset;
    private final int linesWanted;
    private final int mostForms;
    private final int reach;
    private int lines = 0;
    private int calls = 0;
    private int wrong = 0;

    private ModelTest(int run, Map<String, Integer> met) {
        this.run = run;
        this.met = met;
        random = new Random(run);
        mostSize = new int[] {3, 8, 20, 64}[run % 4];
        fewestBits = new int[] {1, 4, 7}[run % 3];
        mostOffset = new int[] {0, 2, 60}[run / 4 % 3];
        linesWanted = new int[] {3, 12, 40, 90, 125}[run % 5];
        mostForms = new int[] {4, 4, 4, 3, 2}[run % 5];
        reach = new int[] {2, 4, 12}[run / 5 % 3];
    }

    public static void main(String[] args) {
        Map<String, Integer> met = new TreeMap<>();
        int wrong = 0;
        for (int run = 0; run < RUNS; run++) {
            wrong += new ModelTest(run, met).play();
        }
        for (String answer : MUST_BE_MET) {
            if (!met.containsKey(answer)) {
                wrong++;
                System.out.println("never met: " + answer);
            }
        }
        System.out.println(wrong == 0 ? RUNS + " runs answer as the model does" : wrong + " faults");
        if (wrong != 0) {
            System.exit(1);
        }
    }

    private int play() {
        while (calls < CALLS) {
            build();
            for (int times = random.nextInt(6); times >= 0; times--) {
                call("settle");
                ask(random.nextInt(30));
                disturb();
            }
            if (random.nextInt(3) == 0) {
                lines = 0;
                call("clear");
            }
        }
        return wrong;
    }

    private void build() {
        int first = lines;
        for (int i = first; i < linesWanted; i++) {
            call("line");
            lines = Math.min(lines + 1, 120);
            for (int left = random.nextInt(mostForms); left >= 0; left--) {
                call("form", size(), bits(left), random.nextInt(6) == 0 ? random.nextInt(2) : 2);
            }
        }
        for (int i = first; i < lines; i++) {
            call("aim", i, Math.max(0, Math.min(lines, i + random.nextInt(2 * reach) - reach / 2)), offset());
        }
    }

    /** From half of the greatest on, so that runs of many lines come near 4096 and beyond it. */
    private int size() {
        return mostSize - random.nextInt(mostSize / 2 + 1);
    }

    /** The last form mostly holds much and those before it little, so that one growth brings on others. */
    private int bits(int left) {
        return left == 0 && random.nextInt(200) != 0 ? 14 + random.nextInt(19) : fewestBits + random.nextInt(3);
    }

    private int offset() {
        switch (random.nextInt(300)) {
            case 0:
                return Integer.MAX_VALUE - random.nextInt(3);
            case 1:
                return Integer.MIN_VALUE + random.nextInt(3);
            default:
                return random.nextInt(2 * mostOffset + 1) - mostOffset;
        }
    }

    private void ask(int times) {
        call("wrong");
        call("told", lines, 0);
        for (int i = 0; i < times; i++) {
            int number = random.nextInt(lines + 3) - 1;
            call("told", number, random.nextInt(12) == 0 ? random.nextInt(7) - 2 : random.nextInt(3));
            call("value", number);
        }
    }

    private void disturb() {
        switch (random.nextInt(6)) {
            case 0:
                call("form", random.nextInt(70) - 2, random.nextInt(37) - 2, random.nextInt(6) - 1);
                break;
            case 1:
                call("line");
                lines = Math.min(lines + 1, 120);
                break;
            case 2:
                call("aim", random.nextInt(lines + 3) - 1, random.nextInt(lines + 4) - 1, offset());
                break;
            default:
                call("aim", random.nextInt(lines + 1), random.nextInt(lines + 1), 0);
                break;
        }
        ask(1);
    }

    private void call(String name, int... arguments) {
        if (calls >= CALLS) {
            return;
        }
        calls++;
        String due = Calls.answer(model, name, arguments);
        String got = Calls.answer(x, name, arguments);
        met.merge(name + " " + due, 1, Integer::sum);
        if (!got.equals(due) && wrong++ < 3) {
            System.out.println("run " + run + ", call " + calls + ": " + name + Arrays.toString(arguments)
                    + " answered " + got + ", due is " + due);
        }
    }
}
