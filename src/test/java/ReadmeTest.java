import java.io.File;
import java.io.IOException;
import java.lang.reflect.Method;
import java.nio.file.Files;
import java.nio.file.Path;
import java.util.HashMap;
import java.util.List;
import java.util.Map;
import java.util.regex.MatchResult;
import java.util.regex.Matcher;
import java.util.regex.Pattern;

/** What README.md says of the project is so: its example, the calls and the tests that it names. */
final class ReadmeTest {
    private static final Check CHECK = new Check();
    private static final Path SOURCE = Path.of("src/main/java/WhoIsThere.java");
    private static final File TESTS = new File("src/test/java");
    private static final Pattern CALL = Pattern.compile(
            "(?:int (\\w+) = )?house\\.(\\w+)\\(([^)]*)\\); +// (-?\\d+|true|false)(:.*)?");

    public static void main(String[] args) throws IOException, ReflectiveOperationException {
        String readme = Files.readString(Path.of("README.md"));
        theExampleAnswersAsItSays(readme);
        everyCallIsNamed(readme, Files.readString(SOURCE));
        everyTestIsNamed(readme);
        whatIsNamedIsThere(readme);
        CHECK.end("ReadmeTest");
    }

    private static List<MatchResult> found(String text, String pattern) {
        return Pattern.compile(pattern).matcher(text).results().toList();
    }

    private static void theExampleAnswersAsItSays(String readme) throws ReflectiveOperationException {
        Matcher example = Pattern.compile("(?s)```java\n(.*?)```").matcher(readme);
        CHECK.due("there is an example", example.find(), true);
        List<String> lines = example.group(1).lines().toList();
        CHECK.due("it makes an object", lines.get(0).equals("WhoIsThere house = new WhoIsThere();"), true);
        WhoIsThere house = new WhoIsThere();
        Map<String, Object> numbers = new HashMap<>();
        for (String line : lines.subList(1, lines.size())) {
            Matcher call = CALL.matcher(line);
            CHECK.due("a call with its answer: " + line, call.matches(), true);
            Object answer = answerTo(house, call.group(2), call.group(3), numbers);
            CHECK.due(line + " answered " + answer, answer.toString().equals(call.group(4)), true);
            numbers.put(call.group(1), answer);
        }
    }

    private static Object answerTo(WhoIsThere house, String name, String given, Map<String, Object> numbers)
            throws ReflectiveOperationException {
        String[] words = given.split(", ");
        Object[] values = new Object[words.length];
        for (int i = 0; i < words.length; i++) {
            values[i] = numbers.containsKey(words[i]) ? numbers.get(words[i]) : Integer.valueOf(words[i]);
        }
        for (Method method : WhoIsThere.class.getMethods()) {
            if (method.getName().equals(name)) {
                return method.invoke(house, values);
            }
        }
        return "nothing: there is no such call";
    }

    private static void everyCallIsNamed(String readme, String source) {
        List<MatchResult> faces = found(source, "public (?:int|boolean) (\\w+)\\((.*)\\) \\{");
        CHECK.due("calls of the class", faces.size(), 23);
        for (MatchResult face : faces) {
            String call = face.group(1) + "(" + face.group(2).replaceAll("\\b(int|boolean) ", "") + ")";
            CHECK.due(call + " has its row", readme.contains("\n| `" + call + "` |"), true);
        }
        CHECK.due("rows of calls", found(readme, "\n\\| `").size(), 23);
    }

    private static void everyTestIsNamed(String readme) {
        String[] files = TESTS.list();
        CHECK.due("there are tests", files != null && files.length > 0, true);
        for (String file : files == null ? new String[0] : files) {
            CHECK.due(file + " is named", readme.contains("`" + file.replace(".java", "") + "`"), true);
        }
    }

    private static void whatIsNamedIsThere(String readme) {
        for (MatchResult named : found(readme, "`(\\w+Test)`")) {
            CHECK.due(named.group(1) + " is there", new File(TESTS, named.group(1) + ".java").isFile(), true);
        }
        // What is under ../shared is not the project's own: it may change without it.
        for (MatchResult named : found(readme, "`((?!\\.\\./)[./\\w]*/[./\\w]*)`")) {
            CHECK.due(named.group(1) + " is there", new File(named.group(1)).exists(), true);
        }
    }
}
