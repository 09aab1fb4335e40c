import java.io.IOException;
import java.nio.file.Files;
import java.nio.file.Path;
import java.util.HashMap;
import java.util.List;
import java.util.Map;
import java.util.regex.Matcher;
import java.util.regex.Pattern;
import java.util.stream.Collectors;
import java.util.stream.Stream;

/** What README.md says holds: the answers of its example, and the tests that it names. */
public final class ReadmeTest {
    private static final Pattern EXAMPLE = Pattern.compile("```java\n(.*?)```", Pattern.DOTALL);

    /** A call on g, perhaps kept under a name, and behind it the answer, if the call has one. */
    private static final Pattern CALL =
            Pattern.compile("(?:int (\\w+) = )?g\\.(\\w+)\\((.*?)\\);(?:\\s*// ?(-?\\d+|throws\\.\\w+)?.*)?");

    private static final Pattern TEST_NAME = Pattern.compile("`(\\w+Test)`");

    private static final int PROMISES = 9;

    public static void main(String[] args) throws IOException {
        String readme = Files.readString(Path.of("README.md"));
        namesTheTests(readme, testFiles());
        Matcher example = EXAMPLE.matcher(readme);
        Due.is(example.find(), "README.md has an example");
        Due.end("README.md names the tests that there are");
        play(example.group(1).strip().split("\n"));
        Run.end();
    }

    private static void play(String[] statements) {
        Run run = new Run("README.md");
        Map<String, String> kept = new HashMap<>();
        if (!statements[0].equals("GrowForms g = new GrowForms();")) {
            throw new AssertionError("the example begins with another object: " + statements[0]);
        }
        for (int i = 1; i < statements.length; i++) {
            Matcher call = CALL.matcher(statements[i]);
            if (!call.matches()) {
                throw new AssertionError("no call on g: " + statements[i]);
            }
            String answer = call.group(4) == null ? Calls.NO_ANSWER : call.group(4);
            run.rows(call.group(2) + "(" + numbers(call.group(3), kept) + "): " + answer);
            if (call.group(1) != null) {
                kept.put(call.group(1), answer);
            }
        }
    }

    private static String numbers(String arguments, Map<String, String> kept) {
        return Stream.of(arguments.split(",\\s*"))
                .map(argument -> kept.getOrDefault(argument, argument))
                .collect(Collectors.joining(", "));
    }

    private static void namesTheTests(String readme, List<String> files) {
        List<String> named = TEST_NAME.matcher(readme).results().map(found -> found.group(1)).toList();
        for (String name : named) {
            Due.is(files.contains(name), "there is a test " + name);
        }
        for (String file : files) {
            Due.is(named.contains(file) || file.startsWith("Promise"), "README.md names " + file);
        }
        for (int promise = 1; promise <= PROMISES; promise++) {
            String start = "Promise" + promise;
            Due.is(files.stream().anyMatch(file -> file.startsWith(start)), "promise " + promise + " has a test");
        }
    }

    private static List<String> testFiles() throws IOException {
        try (Stream<Path> all = Files.list(Path.of("src/test/java"))) {
            return all.map(file -> file.getFileName().toString())
                    .filter(name -> name.endsWith("Test.java"))
                    .map(name -> name.substring(0, name.length() - ".java".length()))
                    .toList();
        }
    }
}
