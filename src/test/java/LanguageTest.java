import java.io.IOException;
import java.lang.reflect.Field;
import java.lang.reflect.Method;
import java.lang.reflect.Modifier;
import java.nio.file.Files;
import java.nio.file.Path;
import java.util.Set;
import java.util.regex.Matcher;
import java.util.regex.Pattern;

/**
 * What of LANGUAGE.md can be seen in the text and the members of the class. It is narrower than those rules where
 * the class needs less than they leave: no library, no classes inside, no try, no object made but what is thrown.
 */
public final class LanguageTest {
    private static final Path SOURCE = Path.of("src/main/java/GrowForms.java");

    private static final String[] NOT_USED = {
        "package", "import", "class [a-z]\\w*", "interface", "enum", "record", "try", "catch", "finally", "synchronized",
        "assert", "native", "volatile", "while", "do", "switch", "yield", "instanceof", "equals", "hashCode", "toString",
        "double", "float", "var", "static \\{", "->", "::", "System", "Thread", "Random", "Math", "\\w*Exact",
    };

    private static final Set<String> THROWN = Set.of("IllegalStateException", "IllegalArgumentException",
            "IndexOutOfBoundsException", "UnsupportedOperationException");

    /** Where a field or a method begins or ends. */
    private static final Pattern MEMBER = Pattern.compile("^    \\S");

    private static final int MOST_METHOD_LINES = 60;
    private static final int MOST_PARAMETERS = 7;
    private static final int MOST_FIELDS = 20;

    public static void main(String[] args) throws IOException {
        String text = Files.readString(SOURCE);
        Due.is(text.chars().allMatch(c -> c == '\n' || c >= ' ' && c <= '~'), "the text is plain ASCII");
        String code = withoutTexts(text);
        nothingUnused(code);
        throwsAsWritten(code);
        makesOnlyRowsAndExceptions(code);
        loopsCountTowardsABound(code);
        shortMethods(code);
        members();
        Due.end("the class keeps to its language");
    }

    /** Without comments, and each written text as "", so that no word in them counts. */
    private static String withoutTexts(String text) {
        return text.replaceAll("(?s)/\\*.*?\\*/", "").replaceAll("//.*", "").replaceAll("\"[^\"\n]*\"", "\"\"");
    }

    private static void nothingUnused(String code) {
        for (String word : NOT_USED) {
            String bounded = Character.isLetter(word.charAt(0)) ? "\\b" + word + "\\b" : word;
            Due.is(!Pattern.compile(bounded).matcher(code).find(), "rules 2 to 6, 13: no " + word);
        }
        Due.is(!Pattern.compile("\"\\s*\\+|\\+\\s*\"").matcher(code).find(), "rule 10: no texts joined by +");
    }

    private static void throwsAsWritten(String code) {
        Matcher thrown = Pattern.compile("\\bthrow\\b([^;]*);").matcher(code);
        while (thrown.find()) {
            Matcher made = Pattern.compile("\\s+new (\\w+)\\((?:\"\")?\\)").matcher(thrown.group(1));
            Due.is(made.matches() && THROWN.contains(made.group(1)), "rule 6: a plain exception, not" + thrown.group(1));
        }
    }

    /** Rule 12: rows belong to the object, so that 512 calls make no more of them than one does. */
    private static void makesOnlyRowsAndExceptions(String code) {
        for (String line : code.split("\n")) {
            if (Pattern.compile("\\bnew\\b").matcher(line).find()) {
                String made = line.strip();
                Due.is(made.startsWith("throw new ") || made.startsWith("private final int[] "), "rule 12: no " + made);
            }
        }
    }

    private static void loopsCountTowardsABound(String code) {
        Pattern counted = Pattern.compile("for \\(int (\\w+) = 0; \\1 <=? (?:lineCount|MOST_\\w+); \\1\\+\\+\\)");
        for (String line : code.split("\n")) {
            if (Pattern.compile("\\bfor\\b").matcher(line).find()) {
                Due.is(counted.matcher(line).find(), "rule 9: a counter against a bound, not " + line.strip());
            }
        }
    }

    private static void shortMethods(String code) {
        int length = 0;
        for (String line : code.split("\n")) {
            length = MEMBER.matcher(line).find() ? 0 : length + 1;
            Due.is(length <= MOST_METHOD_LINES, "rule 11: a method is short, but for: " + line.strip());
        }
    }

    private static void members() {
        int fields = 0;
        for (Field field : GrowForms.class.getDeclaredFields()) {
            boolean constant = Modifier.isStatic(field.getModifiers());
            Due.is(!constant || field.getType() == int.class, "rule 5: a constant of int, not " + field);
            fields += constant ? 0 : 1;
        }
        Due.is(fields <= MOST_FIELDS, "rule 11: at most " + MOST_FIELDS + " fields, not " + fields);
        for (Method method : GrowForms.class.getDeclaredMethods()) {
            Due.is(method.getParameterCount() <= MOST_PARAMETERS, "rule 11: at most seven parameters, not " + method);
        }
        Due.is(GrowForms.class.getDeclaredClasses().length == 0, "no classes inside");
    }
}
