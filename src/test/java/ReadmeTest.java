import java.io.IOException;
import java.nio.file.Files;
import java.nio.file.Path;
import java.util.regex.Matcher;
import java.util.regex.Pattern;

/** The examples of README.md answer what stands behind them, and it names every call. */
public final class ReadmeTest {
    private static final Check CHECK = new Check("ReadmeTest");
    private static final Pattern NEW = Pattern.compile("LeasePair pair = new LeasePair\\((\\d+), (\\d+), (\\d+)\\);.*");
    private static final Pattern CALL = Pattern.compile("pair\\.(\\w+\\([\\d, ]*\\)); *// (\\w+): .*");

    public static void main(String[] args) throws IOException {
        String text = Files.readString(Path.of("README.md"));
        for (String name : Calls.face()) {
            CHECK.due("README.md names " + name, text.contains("`" + name + "`"), true);
        }
        String[] parts = text.split("```java\n");
        CHECK.due("examples", parts.length > 1, true);
        for (int i = 1; i < parts.length; i++) {
            runExample("README.md, example " + i, parts[i].substring(0, parts[i].indexOf("```")).split("\n"));
        }
        CHECK.end();
    }

    private static void runExample(String title, String[] lines) {
        Matcher first = matched(NEW, lines[0]);
        Run run = new Run(CHECK, title, new LeasePair(number(first, 1), number(first, 2), number(first, 3)));
        for (int i = 1; i < lines.length; i++) {
            Matcher call = matched(CALL, lines[i]);
            run.step(call.group(1) + " = " + call.group(2));
        }
    }

    private static Matcher matched(Pattern form, String line) {
        Matcher matcher = form.matcher(line);
        if (!matcher.matches()) {
            throw new IllegalStateException("not of the form of an example: " + line);
        }
        return matcher;
    }

    private static int number(Matcher matcher, int group) {
        return Integer.parseInt(matcher.group(group));
    }
}
