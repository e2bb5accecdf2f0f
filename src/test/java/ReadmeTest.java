import java.io.IOException;
import java.lang.reflect.Method;
import java.nio.file.Files;
import java.nio.file.Path;
import java.util.Set;
import java.util.TreeSet;
import java.util.regex.Matcher;
import java.util.regex.Pattern;

/** Makes the calls that README.md shows, one after the other, and looks at the answers it tells. */
public final class ReadmeTest {
    private static final Check CHECK = new Check("ReadmeTest");
    private static final Pattern CALL = Pattern.compile("x\\.(\\w+)\\(([-0-9, ]*)\\); +// (-?\\d+)(:.*)?");
    private static final Pattern LETTERS = Pattern.compile("for .*\"(.*)\"\\.toCharArray\\(\\)\\) x\\.letter\\(c\\);");
    private static final String NEW = "CharactersMultiplied x = new CharactersMultiplied();";
    private static final int MOST_CALLS = 512;
    /** What README.md must tell of, besides the tests: some call of each of these. */
    private static final String[] TOLD = {
        "of", "shape", "shapes", "character", "number", "list", "put", "look", "lays", "judge", "which", "letter",
        "reads", "coefficient", "makes", "changed", "undo", "image", "on", "count",
    };

    private static CharactersMultiplied object;
    private static int calls;
    private static final Set<String> SHOWN = new TreeSet<>();

    public static void main(String[] args) throws IOException, ReflectiveOperationException {
        boolean inside = false;
        for (String line : Files.readAllLines(Path.of("README.md"))) {
            if (line.startsWith("```")) {
                inside = line.equals("```java");
            } else if (inside && !line.isEmpty()) {
                run(line);
            }
        }
        for (String name : TOLD) {
            CHECK.holds("README.md shows " + name, SHOWN.contains(name));
        }
        CHECK.holds("one object can answer all of README.md", calls <= MOST_CALLS);
        CHECK.end();
    }

    private static void run(String line) throws ReflectiveOperationException {
        Matcher call = CALL.matcher(line);
        Matcher letters = LETTERS.matcher(line);
        if (line.equals(NEW)) {
            object = new CharactersMultiplied();
        } else if (object != null && call.matches()) {
            CHECK.due(line, answer(call.group(1), call.group(2)), Long.parseLong(call.group(3)));
        } else if (object != null && letters.matches()) {
            Calls.letters(object, letters.group(1));
            calls += letters.group(1).length();
            SHOWN.add("letter");
        } else {
            CHECK.holds("README.md has a line that can't be run: " + line, false);
        }
    }

    private static long answer(String name, String arguments) throws ReflectiveOperationException {
        String[] told = arguments.isBlank() ? new String[0] : arguments.split(",");
        Object[] given = new Object[told.length];
        Class<?>[] types = new Class<?>[told.length];
        for (int i = 0; i < told.length; i++) {
            given[i] = Integer.valueOf(told[i].trim());
            types[i] = int.class;
        }
        Method method = CharactersMultiplied.class.getMethod(name, types);
        SHOWN.add(name);
        calls++;
        return ((Number) method.invoke(object, given)).longValue();
    }
}
