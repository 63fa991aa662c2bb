import java.io.IOException;
import java.lang.reflect.Method;
import java.lang.reflect.Modifier;
import java.nio.file.DirectoryStream;
import java.nio.file.Files;
import java.nio.file.Path;
import java.util.List;
import java.util.regex.Matcher;
import java.util.regex.Pattern;
import java.util.stream.Stream;

/** README.md: its example answers as it says, and it names every call and every test. */
public final class ReadmeTest {
    private static final Path README = Path.of("README.md");
    private static final Path TESTS = Path.of("src/test/java");
    private static final String MAKING = "KeyCustody custody = new KeyCustody();";
    private static final Pattern CALL = Pattern.compile("custody\\.(\\w+)\\(([-0-9, ]*)\\);(?: +// (.+))?");

    private static final Check CHECK = new Check();

    public static void main(String[] args) throws IOException {
        String text = Files.readString(README);
        theExampleAnswersAsItSays(block(text, "java"));
        theTestsAreRunByTheScript(block(text, "sh"));
        eachCallIsNamed(text);
        eachTestIsNamed(text);
        CHECK.end();
    }

    /** The lines of the first block of that language; none if there is none. */
    private static List<String> block(String text, String language) {
        Matcher found = Pattern.compile("(?s)```" + language + "\n(.*?)```").matcher(text);
        return found.find() ? found.group(1).lines().filter(line -> !line.isBlank()).toList() : List.of();
    }

    private static void theExampleAnswersAsItSays(List<String> example) {
        expect("the example begins with a new object", !example.isEmpty() && example.get(0).equals(MAKING));
        KeyCustody custody = new KeyCustody();
        for (String line : example.subList(Math.min(1, example.size()), example.size())) {
            Matcher call = CALL.matcher(line);
            if (call.matches()) {
                String outcome = Calls.outcome(custody, call.group(1), numbers(call.group(2)));
                expect("in the example: " + line + " (it is " + outcome + ")", isTold(outcome, call.group(3)));
            } else {
                expect("a call in the example: " + line, false);
            }
        }
    }

    private static int[] numbers(String list) {
        return Stream.of(list.split(",")).map(String::strip).filter(each -> !each.isEmpty())
            .mapToInt(Integer::parseInt).toArray();
    }

    /** A comment behind a call that answers begins with the answer, up to a colon. */
    private static boolean isTold(String outcome, String comment) {
        if (outcome.equals("done")) {
            return true;
        }
        String told = comment == null ? "" : comment.split(":")[0];
        return told.equals(outcome) || told.equals("throws " + outcome);
    }

    private static void theTestsAreRunByTheScript(List<String> commands) {
        expect("the script is the one command", commands.equals(List.of(".ci/run")));
        expect("the script can be run", Files.isExecutable(Path.of(".ci/run")));
    }

    private static void eachCallIsNamed(String text) {
        for (Method method : KeyCustody.class.getDeclaredMethods()) {
            if (Modifier.isPublic(method.getModifiers())) {
                expect("the call is named: " + method.getName(), text.contains("`" + method.getName() + "`"));
            }
        }
    }

    private static void eachTestIsNamed(String text) throws IOException {
        try (DirectoryStream<Path> tests = Files.newDirectoryStream(TESTS, "*Test.java")) {
            for (Path test : tests) {
                String name = test.getFileName().toString().replace(".java", "");
                expect("the test is named: " + name, Pattern.compile("\\b" + name + "\\b").matcher(text).find());
            }
        }
    }

    private static void expect(String what, boolean holds) {
        CHECK.due(what, holds, true);
    }
}
