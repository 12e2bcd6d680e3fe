import java.io.IOException;
import java.lang.reflect.Method;
import java.nio.file.Files;
import java.nio.file.Path;
import java.util.Set;
import java.util.TreeSet;
import java.util.regex.Matcher;
import java.util.regex.Pattern;

/** The example in README.md answers as it says, and shows each call of the face. Run from the root of the project. */
public final class ReadmeTest {
    private static final Pattern TEXT = Pattern.compile("\"([^\"]*)\"\\.toCharArray\\(\\)");
    private static final Pattern CALL = Pattern.compile("x\\.(\\w+)\\(([-0-9, ]*)\\);\\s*// (-?[0-9]+)(:.*)?");

    public static void main(String[] args) throws IOException, ReflectiveOperationException {
        Check check = new Check("ReadmeTest");
        BannedRows x = new BannedRows();
        Set<String> shown = new TreeSet<>();
        String readme = Files.readString(Path.of("README.md"));
        for (String line : example(readme).split("\n")) {
            Matcher text = TEXT.matcher(line);
            if (text.find()) {
                View.type(x, text.group(1));
                continue;
            }
            Matcher call = CALL.matcher(line);
            if (call.matches()) {
                shown.add(call.group(1));
                check.due(line, answer(x, call.group(1), call.group(2)), Integer.parseInt(call.group(3)));
            } else {
                check.holds("a line with an answer: " + line, !line.startsWith("x."));
            }
        }
        for (Method m : BannedRows.class.getMethods()) {
            if (m.getDeclaringClass() == BannedRows.class) {
                check.holds(m.getName() + " is named", readme.contains("`" + m.getName() + "`"));
            }
        }
        check.holds("most calls are shown: " + shown, shown.size() >= 18);
        check.end();
    }

    private static String example(String readme) {
        int from = readme.indexOf("```java\n");
        int to = readme.indexOf("```\n", from + 1);
        return from < 0 || to < 0 ? "x." : readme.substring(from, to);
    }

    private static int answer(BannedRows x, String name, String numbers) throws ReflectiveOperationException {
        String[] parts = numbers.isBlank() ? new String[0] : numbers.split(",");
        Class<?>[] types = new Class<?>[parts.length];
        Object[] values = new Object[parts.length];
        for (int i = 0; i < parts.length; i++) {
            types[i] = int.class;
            values[i] = Integer.parseInt(parts[i].trim());
        }
        return (Integer) BannedRows.class.getMethod(name, types).invoke(x, values);
    }
}
