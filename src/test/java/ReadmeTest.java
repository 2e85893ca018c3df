import java.io.IOException;
import java.lang.reflect.Method;
import java.lang.reflect.Modifier;
import java.nio.file.Files;
import java.nio.file.Path;
import java.util.List;
import java.util.Set;
import java.util.TreeSet;
import java.util.regex.Matcher;
import java.util.regex.Pattern;
import java.util.stream.Collectors;
import java.util.stream.Stream;

/** README.md is true: its example answers as its comments say, and it names the tests there are. */
public final class ReadmeTest {
    private static final String MAKING = "FactorDesk desk = new FactorDesk();";
    private static final Pattern CALL =
        Pattern.compile("desk\\.(\\w+)\\((?:(\\d+)(?:, (\\d+))?)?\\); +// (true|false|NONE|\\d+)(?:: .+)?");
    private static final Pattern TEST = Pattern.compile("`(\\w+Test)`");

    private final Due due = new Due("ReadmeTest");
    private final String text;

    private ReadmeTest(String text) {
        this.text = text;
    }

    // .ci/run runs the tests in the project's own directory.
    public static void main(String[] args) throws IOException {
        ReadmeTest test = new ReadmeTest(Files.readString(Path.of("README.md")));
        test.theExampleAnswersAsItSays();
        test.theTestsAreNamed();
        test.theScriptIsThereToBeRun();
        test.due.close();
    }

    private void theExampleAnswersAsItSays() {
        List<String> lines = example();
        due.holds("the example begins with " + MAKING, !lines.isEmpty() && lines.get(0).equals(MAKING));
        FactorDesk x = new FactorDesk();
        Set<String> shown = new TreeSet<>();
        for (String line : lines.subList(Math.min(1, lines.size()), lines.size())) {
            Matcher call = CALL.matcher(line);
            due.holds("a call with its answer: " + line, call.matches());
            if (call.matches()) {
                shown.add(call.group(1));
                Call made = Call.of(call.group(1), number(call.group(2)), number(call.group(3)));
                due.same(line, made.on(x), answer(call.group(4)));
            }
        }
        due.holds("the example shows each method, not only " + shown, shown.equals(face()));
    }

    private List<String> example() {
        String opening = "```java\n";
        int from = text.indexOf(opening) + opening.length();
        return text.substring(from, text.indexOf("```\n", from)).lines().filter(line -> !line.isBlank()).toList();
    }

    private static int number(String digits) {
        return digits == null ? 0 : Integer.parseInt(digits);
    }

    private static int answer(String word) {
        return switch (word) {
            case "true" -> 1;
            case "false" -> 0;
            case "NONE" -> -1;
            default -> Integer.parseInt(word);
        };
    }

    private static Set<String> face() {
        return Stream.of(FactorDesk.class.getDeclaredMethods()).filter(m -> Modifier.isPublic(m.getModifiers()))
            .map(Method::getName).collect(Collectors.toCollection(TreeSet::new));
    }

    private void theTestsAreNamed() throws IOException {
        Set<String> named = new TreeSet<>();
        for (Matcher m = TEST.matcher(text); m.find(); ) {
            named.add(m.group(1));
        }
        due.holds("README.md names the tests that there are, not " + named, named.equals(tests()));
    }

    private static Set<String> tests() throws IOException {
        try (Stream<Path> files = Files.list(Path.of("src/test/java"))) {
            return files.map(file -> file.getFileName().toString()).filter(name -> name.endsWith("Test.java"))
                .map(name -> name.substring(0, name.length() - ".java".length()))
                .collect(Collectors.toCollection(TreeSet::new));
        }
    }

    private void theScriptIsThereToBeRun() {
        due.holds("README.md says how the tests are run", text.contains("\n    .ci/run\n"));
        due.holds(".ci/run can be run", Files.isExecutable(Path.of(".ci/run")));
    }
}
