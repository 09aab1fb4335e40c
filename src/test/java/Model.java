import java.math.BigInteger;
import java.util.ArrayList;
import java.util.List;

/** The document written a second time, with other means, so that a slip in one does not hide in the other. */
final class Model {
    private record Form(int size, int bits, int sort) {
        boolean holds(BigInteger value) {
            return sort == 0 ? value.signum() >= 0 && value.bitLength() <= bits : value.bitLength() < bits;
        }
    }

    private static final class Line {
        final List<Form> forms = new ArrayList<>();
        int target = 0;
        int offset = 0;
        int has = -1;

        Form form() {
            return has < 0 ? null : forms.get(has);
        }
    }

    private final List<Line> lines = new ArrayList<>();
    private boolean settled = false;

    int line() {
        if (lines.size() == 120) {
            throw new IllegalStateException();
        }
        lines.add(new Line());
        settled = false;
        return lines.size() - 1;
    }

    int form(int size, int bits, int sort) {
        if (size < 1 || size > 64 || bits < 1 || bits > 32 || sort < 0 || sort > 2) {
            throw new IllegalArgumentException();
        }
        if (lines.isEmpty() || lines.get(lines.size() - 1).forms.size() == 4) {
            throw new IllegalStateException();
        }
        List<Form> forms = lines.get(lines.size() - 1).forms;
        forms.add(new Form(size, bits, sort));
        settled = false;
        return forms.size();
    }

    void aim(int line, int t, int offset) {
        if (line < 0 || line >= lines.size() || t < 0 || t > lines.size()) {
            throw new IndexOutOfBoundsException();
        }
        lines.get(line).target = t;
        lines.get(line).offset = offset;
        settled = false;
    }

    int clear() {
        int had = lines.size();
        lines.clear();
        settled = false;
        return had;
    }

    int settle() {
        settled = true;
        lines.forEach(l -> l.has = l.forms.isEmpty() ? -1 : 0);
        int rounds = 0;
        while (true) {
            if (address(lines.size()) > 4096) {
                throw new IllegalStateException();
            }
            List<Line> unfit = unfit();
            if (unfit.isEmpty()) {
                return rounds;
            }
            if (unfit.stream().anyMatch(l -> l.has == l.forms.size() - 1)) {
                throw new UnsupportedOperationException();
            }
            unfit.forEach(l -> l.has++);
            rounds++;
        }
    }

    int told(int line, int what) {
        if (what < 0 || what > 2) {
            throw new IllegalArgumentException();
        }
        mustBeSettled();
        if (what == 0 && line == lines.size()) {
            return address(line);
        }
        mustBeLine(line);
        return what == 0 ? address(line) : what == 1 ? lines.get(line).has : fits(line) ? 1 : 0;
    }

    long value(int line) {
        mustBeSettled();
        mustBeLine(line);
        return reach(line).longValueExact();
    }

    int wrong() {
        mustBeSettled();
        List<Line> unfit = unfit();
        return unfit.isEmpty() ? -1 : lines.indexOf(unfit.get(0));
    }

    private void mustBeSettled() {
        if (!settled) {
            throw new IllegalStateException();
        }
    }

    private void mustBeLine(int line) {
        if (line < 0 || line >= lines.size()) {
            throw new IndexOutOfBoundsException();
        }
    }

    private int address(int number) {
        return lines.subList(0, number).stream().mapToInt(l -> l.form() == null ? 0 : l.form().size()).sum();
    }

    private BigInteger reach(int number) {
        Line line = lines.get(number);
        BigInteger there = BigInteger.valueOf(address(line.target)).add(BigInteger.valueOf(line.offset));
        boolean fromLine = line.form() != null && line.form().sort() == 2;
        return fromLine ? there.subtract(BigInteger.valueOf(address(number))) : there;
    }

    private boolean fits(int number) {
        Form form = lines.get(number).form();
        return form == null || form.holds(reach(number));
    }

    private List<Line> unfit() {
        List<Line> unfit = new ArrayList<>();
        for (int i = 0; i < lines.size(); i++) {
            if (!fits(i)) {
                unfit.add(lines.get(i));
            }
        }
        return unfit;
    }
}
