import java.io.IOException;
import java.nio.file.Files;
import java.nio.file.Path;
import java.util.HashMap;
import java.util.List;
import java.util.Map;
import java.util.regex.Matcher;
import java.util.regex.Pattern;

/** The example of README.md, line by line, answers what stands behind it there. */
public final class ReadmeTest {
    private static final String MADE = "GantryHall hall = new GantryHall();";
    private static final Pattern CALL = Pattern.compile("(?:int (\\w+) = )?hall\\.(\\w+)\\((.*)\\);\\s+// (.*)");
    private static final Pattern DUE = Pattern.compile("(-?\\d+|true|false)\\b.*");

    private final GantryHall hall = new GantryHall();
    private final Map<String, Object> told = new HashMap<>(Map.of("true", true, "false", false));

    public static void main(String[] args) throws IOException {
        List<String> lines = example(Files.readAllLines(Path.of("README.md")));
        Check.same("the example begins with " + MADE, true, lines.indexOf(MADE) == 0);
        ReadmeTest test = new ReadmeTest();
        for (String line : lines.subList(1, lines.size())) {
            test.run(line);
        }
        Check.end("ReadmeTest");
    }

    private static List<String> example(List<String> readme) {
        List<String> rest = readme.subList(readme.indexOf("```java") + 1, readme.size());
        return rest.subList(0, rest.indexOf("```"));
    }

    private void run(String line) {
        Matcher call = CALL.matcher(line);
        if (!call.matches()) {
            Check.wrong("this is no call: " + line);
            return;
        }
        String[] texts = call.group(3).split(", ");
        Object[] arguments = new Object[texts.length];
        for (int k = 0; k < texts.length; k++) {
            arguments[k] = valueOf(texts[k]);
        }
        Object got = Faces.call(hall, call.group(2), arguments);
        if (call.group(1) != null) {
            told.put(call.group(1), got);
        }
        Check.same(line + " threw " + got, false, got instanceof RuntimeException);
        Matcher due = DUE.matcher(call.group(4));
        if (due.matches()) {
            Check.same(line + " answered " + got, true, valueOf(due.group(1)).equals(got));
        }
    }

    private Object valueOf(String text) {
        Object value = told.get(text);
        return value != null ? value : Integer.valueOf(text);
    }
}
