import java.io.IOException;
import java.nio.file.Files;
import java.nio.file.Path;
import java.util.ArrayList;
import java.util.List;

/**
 * Tests that stand by the words of the document: each is bound to a sentence of one of its parts, and no line
 * of that part that may name a boundary case is left without one.
 */
final class Sentences {
    private static final Path DOCUMENT = Path.of("..", "shared", "DOC.md");
    /** Headings, frames, what the calls are about, names of arguments: there is no boundary case in these. */
    private static final String NAMES_NONE = "|```.*|==.*|Its calls:.*|Ahead of .*(told|comes|asked)\\."
            + "|(Tells|Pays|Lets|CORRECTS) .*|A (CONTROL|DISPUTE)\\.|- `(?!what`).*|Returns (that|d)\\.";

    interface Test {
        void run();
    }

    private final String part;
    private final List<String> lines;
    private final List<String> tested = new ArrayList<>();

    /** The part under the heading that begins so. */
    Sentences(String part) {
        this.part = part;
        this.lines = linesOf(part);
        if (lines.isEmpty() && isThere()) {
            Check.wrong("the document has no part " + part);
        }
    }

    /** Runs a test of the sentence with these words. */
    Sentences test(String words, Test test) {
        if (isThere() && lines.stream().noneMatch(line -> line.contains(words))) {
            Check.wrong(part + " does not say: " + words);
        }
        tested.add(words);
        Check.about(part + " «" + words + "» ");
        int before = Check.asked();
        try {
            test.run();
        } catch (RuntimeException e) {
            Check.wrong("threw " + e);
        }
        if (Check.asked() == before) {
            Check.wrong("asks nothing");
        }
        Check.about("");
        return this;
    }

    void end() {
        for (String line : lines) {
            if (!line.matches(NAMES_NONE) && tested.stream().noneMatch(line::contains)) {
                Check.wrong(part + " says, without a test: " + line);
            }
        }
    }

    /** The tests themselves do not need the document, but to be held against its words. */
    private static boolean isThere() {
        return Files.exists(DOCUMENT);
    }

    private static List<String> linesOf(String part) {
        List<String> found = new ArrayList<>();
        boolean isIn = false;
        for (String line : all()) {
            if (line.startsWith("## ")) {
                isIn = line.equals("## " + part) || line.startsWith("## " + part + ":");
            } else if (isIn) {
                // The face of a call stands ahead of what is said of it.
                found.add(line.strip().replaceFirst("^`[^`]*\\)[^`]*`: ", ""));
            }
        }
        return found;
    }

    private static List<String> all() {
        if (!isThere()) {
            System.out.println("there is no " + DOCUMENT + ": the words of the tests are not looked up");
            return List.of();
        }
        try {
            return Files.readAllLines(DOCUMENT);
        } catch (IOException e) {
            throw new AssertionError("can't read " + DOCUMENT, e);
        }
    }
}
