import java.io.IOException;
import java.nio.file.Files;
import java.nio.file.Path;
import java.util.List;
import java.util.regex.Matcher;
import java.util.regex.Pattern;

/** The rules of LANGUAGE.md that can be seen in the program's text; it is run where README.md lies. */
public final class LanguageTest {
    private static final Path PROGRAM = Path.of("src/main/java/WordMachine.java");
    private static final int MOST_LINES_OF_A_METHOD = 60;
    // No import, though some are allowed: the program needs none of the library.
    private static final List<String> FORBIDDEN = List.of("\\bthrow\\b", "\\bthrows\\b", "\\btry\\b", "\\bcatch\\b",
        "\\bsynchronized\\b", "\\bassert\\b", "\\bpackage\\b", "\\bimport\\b", "\\bjava\\.", "\\bSystem\\.",
        "(?m)^(?!.*\\b(case|default)\\b).*->", "::", "Exact\\b", "\\bstatic\\s*\\{", "\\bvolatile\\b", "\\bnative\\b",
        "\\b(Thread|Random|Runtime|Object|Exception|Error)\\b");

    private static final Due DUE = new Due();

    public static void main(String[] args) throws IOException {
        String text = Files.readString(PROGRAM).replaceAll("(?s)/\\*.*?\\*/", "").replaceAll("//[^\n]*", "");
        for (String words : FORBIDDEN) {
            DUE.is("the program has " + words, Pattern.compile(words).matcher(text).find(), false);
        }
        methodsAreShort(text);
        DUE.end();
    }

    private static void methodsAreShort(String text) {
        Matcher method = Pattern.compile("(?m)^    (?:public|private) [^;=]*?\\{\n(?s:.*?)^    \\}$").matcher(text);
        int methods = 0;
        while (method.find()) {
            methods++;
            String first = method.group().lines().findFirst().orElse("");
            DUE.is(first + " is short", method.group().lines().count() <= MOST_LINES_OF_A_METHOD, true);
        }
        DUE.is("methods were found", methods > 10, true);
    }
}
