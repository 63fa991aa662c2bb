import java.io.IOException;
import java.nio.file.Files;
import java.nio.file.Path;
import java.util.List;
import java.util.regex.Matcher;
import java.util.regex.Pattern;

/** Those rules of LANGUAGE.md that can be seen by a search in the program's text. */
public final class LanguageTest {
    private static final Path PROGRAM = Path.of("src/main/java/KeyCustody.java");
    private static final int LONGEST_METHOD = 60;
    private static final int MOST_CLASSES = 12;

    private static final Check CHECK = new Check();

    public static void main(String[] args) throws IOException {
        List<String> lines = Files.readAllLines(PROGRAM);
        String code = withoutComments(String.join("\n", lines));
        rule1NoPackage(code);
        rules2And6And13NothingThatIsRuledOut(code);
        rule4OnlyListedImports(code);
        rule5StaticFieldsAreFinal(code);
        rule6OnlyListedExceptions(code);
        rule11MethodsAreShort(code);
        CHECK.end();
    }

    private static String withoutComments(String text) {
        return text.replaceAll("(?s)/\\*.*?\\*/", "").replaceAll("//[^\n]*", "");
    }

    private static void rule1NoPackage(String code) {
        none("a package line", code, "(?m)^package\\b");
    }

    private static void rules2And6And13NothingThatIsRuledOut(String code) {
        none("a lambda or a method reference", code, "->|::");
        none("a word that is ruled out", code,
            "\\b(finally|synchronized|assert|volatile|transient|native|strictfp|getMessage|hashCode|toString)\\b");
        none("a function that throws by itself", code, "\\w+Exact\\b");
        none("a clock, randomness, a file or a thread", code,
            "\\b(currentTimeMillis|nanoTime|random|Random|Thread|File|Files|Path|getenv|getProperty)\\b");
        none("a static block", code, "\\bstatic\\s*\\{");
        none("an exception that is caught", code, "\\b(try|catch)\\b");
    }

    private static void rule4OnlyListedImports(String code) {
        Matcher found = Pattern.compile("(?m)^import\\s+([^;]+);").matcher(code);
        while (found.find()) {
            List<String> listed = List.of("java.util.Arrays", "java.util.NoSuchElementException",
                "java.util.ArrayList", "java.util.List", "java.util.Iterator");
            expect("a listed import: " + found.group(1), listed.contains(found.group(1)));
        }
    }

    private static void rule5StaticFieldsAreFinal(String code) {
        Matcher found = Pattern.compile("\\bstatic\\s+(?!final\\b)[^(){};]*[=;]").matcher(code);
        expect("static fields are final", !found.find());
    }

    private static void rule6OnlyListedExceptions(String code) {
        Matcher found = Pattern.compile("\\bthrow\\b([^;]*);").matcher(code);
        while (found.find()) {
            boolean listed = found.group(1).matches(" new (IllegalState|IllegalArgument|IndexOutOfBounds|Arithmetic"
                + "|UnsupportedOperation|NoSuchElement|Runtime)Exception\\((\"[^\"]*\")?\\)");
            expect("a listed exception: throw" + found.group(1), listed);
        }
    }

    /** A method's head may go on over a second line; its end is a brace as far to the right as its head. */
    private static void rule11MethodsAreShort(String code) {
        Matcher heads = Pattern.compile("(?m)^( {4}| {8})(?! )[^\n=;]*\\([^;{}]*\\{$").matcher(code);
        while (heads.find()) {
            int end = code.indexOf("\n" + heads.group(1) + "}", heads.end());
            long length = code.substring(heads.start(), end).lines().count() + 1;
            expect("a short method: " + heads.group().strip(), length <= LONGEST_METHOD);
        }
        long classes = Pattern.compile("\\bclass \\w+").matcher(code).results().count();
        expect("at most " + MOST_CLASSES + " classes", classes <= MOST_CLASSES);
    }

    private static void none(String what, String code, String pattern) {
        Matcher found = Pattern.compile(pattern).matcher(code);
        if (found.find()) {
            expect("without " + what + ": " + found.group(), false);
        }
    }

    private static void expect(String what, boolean holds) {
        CHECK.due(what, holds, true);
    }
}
