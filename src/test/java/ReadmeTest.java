import java.io.IOException;
import java.lang.reflect.Method;
import java.nio.file.Files;
import java.nio.file.Path;
import java.util.Set;
import java.util.TreeSet;
import java.util.regex.Matcher;
import java.util.regex.Pattern;

/** The calls that README.md shows are answered as README.md says, and it shows every call of the face. */
public final class ReadmeTest {
    private static final Due due = new Due();
    private static final String NEW_OBJECT = "LiarClocks x = new LiarClocks();";
    private static final Pattern FED = Pattern.compile("feed\\(x, \"([^\"]*)\"\\);( +//.*)?");
    private static final Pattern CALL = Pattern.compile("x\\.(\\w+)\\(([^)]*)\\); +// ([-A-Z0-9]+)(: .*)?");

    private final Set<String> shown = new TreeSet<>();
    private Run run = null;

    public static void main(String[] args) throws IOException {
        ReadmeTest test = new ReadmeTest();
        boolean inside = false;
        for (String line : Files.readAllLines(Path.of("README.md"))) {
            if (line.startsWith("```")) {
                inside = line.equals("```java");
                test.run = null;
            } else if (inside) {
                test.read(line);
            }
        }
        test.everyCallIsShown();
        due.end();
    }

    /** A block that does not begin with a new object shows something else, and is not run. */
    private void read(String line) {
        if (line.equals(NEW_OBJECT)) {
            run = new Run(due, "README.md");
            return;
        }
        if (run == null || line.isBlank() || line.startsWith("//")) {
            return;
        }
        Matcher fed = FED.matcher(line);
        Matcher call = CALL.matcher(line);
        if (fed.matches()) {
            run.feed(fed.group(1));
        } else if (call.matches()) {
            shown.add(call.group(1));
            run.go(call.group(1) + " " + numbers(call.group(2)) + " = " + call.group(3));
        } else {
            due.holds("a line that can be run: " + line, false);
        }
    }

    private static String numbers(String arguments) {
        boolean isLetter = arguments.length() == 3 && arguments.startsWith("'");
        return isLetter ? Integer.toString(arguments.charAt(1)) : arguments.replace(",", " ");
    }

    private void everyCallIsShown() {
        for (Method m : LiarClocks.class.getMethods()) {
            if (m.getDeclaringClass() == LiarClocks.class) {
                due.holds("README.md shows " + m.getName(), shown.contains(m.getName()));
            }
        }
    }
}
