import java.io.IOException;
import java.nio.file.Files;
import java.nio.file.Path;
import java.util.regex.Matcher;
import java.util.regex.Pattern;

/** README.md says how to use the class: its calls answer what it says, and it names all of the face. */
public final class ReadmeTest {
    private static final Pattern BLOCK = Pattern.compile("(?s)```java\n(.*?)```");
    private static final Pattern CALL = Pattern.compile("x\\.(\\w+)\\((.*?)\\); +// (-?\\d+).*");
    private static final String[] FINDINGS = {"BEYOND", "FULL", "KIND", "NONE", "STATE", "MISSING", "SIZE"};

    public static void main(String[] args) throws IOException {
        String page = Files.readString(Path.of("README.md"));
        examples(page);
        names(page);
        findings(page);
        Due.end();
    }

    /** A block that makes no object (the example of a test) is left out. */
    private static void examples(String page) {
        int calls = 0;
        Matcher blocks = BLOCK.matcher(page);
        while (blocks.find()) {
            BentPlain x = null;
            for (String line : blocks.group(1).split("\n")) {
                if (line.equals("BentPlain x = new BentPlain();")) {
                    x = new BentPlain();
                } else if (x != null) {
                    calls += example(x, line);
                }
            }
        }
        Due.holds("the page has examples, not " + calls, calls >= 30);
    }

    /** How many calls a line told. */
    private static int example(BentPlain x, String line) {
        Matcher call = CALL.matcher(line);
        if (!call.matches()) {
            Due.holds("a call with its answer: " + line, false);
            return 0;
        }
        String[] words = call.group(2).isEmpty() ? new String[0] : call.group(2).split(", ");
        long[] arguments = new long[words.length];
        for (int i = 0; i < words.length; i++) {
            arguments[i] = Long.decode(words[i]);
        }
        Due.is("README.md: " + line, Calls.on(x, call.group(1), arguments), Long.parseLong(call.group(3)));
        return 1;
    }

    private static void names(String page) {
        for (String call : Calls.FACE) {
            String name = call.substring(0, call.length() - 1);
            Due.holds("the page names " + name, page.contains("`" + name + "`"));
        }
    }

    private static void findings(String page) {
        for (int i = 0; i < FINDINGS.length; i++) {
            String row = "| " + FINDINGS[i] + " | " + (Due.BEYOND - i) + " | " + i + " |";
            Due.holds("the page has the row " + row, page.contains(row));
        }
    }
}
