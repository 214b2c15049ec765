import java.io.IOException;
import java.nio.file.Files;
import java.nio.file.Path;
import java.util.Arrays;
import java.util.Map;
import java.util.regex.Matcher;
import java.util.regex.Pattern;

/** The example in README.md: every call gives the answer that stands beside it. */
public final class ReadmeTest {
    private static final Pattern LINE = Pattern.compile("pool\\.(\\w+)\\(([^)]*)\\); *// (-?\\w+).*");
    private static final Map<String, Integer> CONSTANTS = Map.of("NONE", NotePool.NONE, "UNKNOWN", NotePool.UNKNOWN,
            "WRONG", NotePool.WRONG, "LARGE", NotePool.LARGE, "STALE", NotePool.STALE, "SPENT", NotePool.SPENT,
            "FULL", NotePool.FULL, "true", 1, "false", 0);

    public static void main(String[] args) throws IOException {
        Check check = new Check();
        String readme = Files.readString(Path.of("README.md"));
        String example = readme.substring(readme.indexOf("```java\n"));
        example = example.substring(0, example.indexOf("\n```\n"));
        NotePool pool = new NotePool();
        int lines = 0;
        for (String line : example.split("\n")) {
            if (line.startsWith("pool.")) {
                Matcher matcher = LINE.matcher(line);
                check.due("a call and its answer stand in: " + line, matcher.matches(), true);
                check.due(line, answer(pool, matcher.group(1), matcher.group(2)), number(matcher.group(3)));
                lines++;
            }
        }
        check.due("the example has calls", lines > 0, true);
        check.finish();
    }

    private static int answer(NotePool pool, String name, String arguments) {
        int[] numbers = arguments.isEmpty() ? new int[0]
                : Arrays.stream(arguments.split(", ")).mapToInt(Integer::parseInt).toArray();
        return Call.valueOf(name.toUpperCase()).on(pool, numbers);
    }

    private static int number(String text) {
        Integer constant = CONSTANTS.get(text);
        return constant != null ? constant : Integer.parseInt(text);
    }

    private ReadmeTest() {
    }
}
