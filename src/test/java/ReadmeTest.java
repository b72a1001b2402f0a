import java.io.IOException;
import java.lang.reflect.Method;
import java.nio.file.Files;
import java.nio.file.Path;
import java.util.Set;
import java.util.TreeSet;
import java.util.regex.Matcher;
import java.util.regex.Pattern;

/** README.md tells the truth: each call in its example answers what stands beside it, and no call is left out. */
public final class ReadmeTest {
    private static final Path README = Path.of("README.md");
    private static final Pattern CALL = Pattern.compile("m\\.(\\w+)\\(([^)]*)\\); +// (true|false|-?\\d+)(:.*)?");

    private static final Due DUE = new Due();

    public static void main(String[] args) throws IOException, ReflectiveOperationException {
        String readme = Files.readString(README);
        Matcher example = Pattern.compile("(?s)```java\nWordMachine m = new WordMachine\\(\\);\n(.*?)```").matcher(readme);
        DUE.is("README.md has an example", example.find(), true);
        Set<String> shown = new TreeSet<>();
        WordMachine m = new WordMachine();
        for (String line : example.group(1).split("\n")) {
            Matcher call = CALL.matcher(line);
            boolean told = call.matches();
            DUE.is(line + " is a call with its answer", told || line.isBlank() || line.startsWith("//"), true);
            if (told) {
                shown.add(call.group(1));
                DUE.is(line, answer(m, call.group(1), call.group(2)), number(call.group(3)));
            }
        }
        for (Method method : WordMachine.class.getMethods()) {
            if (method.getDeclaringClass() == WordMachine.class) {
                DUE.is(method.getName() + " is in the example", shown.contains(method.getName()), true);
                DUE.is(method.getName() + " is in the table", readme.contains("| `" + method.getName() + "("), true);
            }
        }
        DUE.end();
    }

    private static long answer(WordMachine m, String name, String arguments) throws ReflectiveOperationException {
        String[] texts = arguments.isEmpty() ? new String[0] : arguments.split(", *");
        Class<?>[] types = new Class<?>[texts.length];
        Object[] values = new Object[texts.length];
        for (int i = 0; i < texts.length; i++) {
            types[i] = int.class;
            values[i] = Long.decode(texts[i]).intValue();
        }
        return number(WordMachine.class.getMethod(name, types).invoke(m, values).toString());
    }

    private static long number(String answer) {
        return switch (answer) {
            case "true" -> 1;
            case "false" -> 0;
            default -> Long.parseLong(answer);
        };
    }
}
