import java.io.IOException;
import java.nio.charset.StandardCharsets;
import java.nio.file.Files;
import java.nio.file.Path;
import java.util.List;
import java.util.regex.Matcher;
import java.util.regex.Pattern;

/** Rules of LANGUAGE.md that the source text itself shows. Run from the root of the project. */
public final class RulesTest {
    private static final Path SOURCE = Path.of("src/main/java/BannedRows.java");
    private static final String[] BANNED_WORDS = {
        "throw", "throws", "try", "catch", "finally", "synchronized", "assert", "package", "protected", "import",
        "Object", "hashCode", "toString", "Random", "Thread", "Exception", "var", "default ->", "native", "volatile"};

    public static void main(String[] args) throws IOException {
        Check check = new Check("RulesTest");
        String source = Files.readString(SOURCE, StandardCharsets.UTF_8);
        String code = withoutComments(source);
        for (String word : BANNED_WORDS) {
            check.holds("no " + word, !Pattern.compile("\\b" + word + "\\b").matcher(code).find());
        }
        check.holds("no lambda", !code.contains("->"));
        check.holds("no method reference", !code.contains("::"));
        check.holds("signs 1 to 127 alone", source.chars().allMatch(c -> c >= 1 && c <= 127));
        library(check, code);
        lengths(check, code);
        check.end();
    }

    private static String withoutComments(String source) {
        return source.replaceAll("(?s)/\\*.*?\\*/", "").replaceAll("//[^\n]*", "");
    }

    private static void library(Check check, String code) {
        List<String> allowed = List.of("System.arraycopy", "Math.max", "Math.min", "Integer.bitCount");
        Matcher calls = Pattern.compile("\\b([A-Z]\\w*[a-z]\\w*)\\.(\\w+)").matcher(code);
        while (calls.find()) {
            check.holds("of the library: " + calls.group(), allowed.contains(calls.group()));
        }
    }

    /** No method is longer than sixty lines: those begin at 4 or 8 blanks and end with a brace there. */
    private static void lengths(Check check, String code) {
        String[] lines = code.split("\n");
        for (int i = 0; i < lines.length; i++) {
            Matcher head = Pattern.compile("( {4}| {8})(?! )[^;=]*\\) \\{").matcher(lines[i]);
            if (head.matches()) {
                int end = i;
                while (end < lines.length - 1 && !lines[end].equals(head.group(1) + "}")) {
                    end++;
                }
                check.holds("short: " + lines[i].trim(), end - i <= 60);
            }
        }
    }
}
