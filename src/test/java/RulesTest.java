import java.io.IOException;
import java.nio.charset.StandardCharsets;
import java.nio.file.Files;
import java.nio.file.Path;
import java.util.List;
import java.util.Random;
import java.util.regex.Matcher;
import java.util.regex.Pattern;

/** Rules of LANGUAGE.md that the source text shows, and that no call throws. Run from the root of the project. */
public final class RulesTest {
    private static final Path SOURCE = Path.of("src/main/java/BannedRows.java");
    private static final String[] BANNED_WORDS = {
        "throw", "throws", "try", "catch", "finally", "synchronized", "assert", "package", "protected", "import",
        "Object", "hashCode", "toString", "Random", "Thread", "Exception", "var", "default ->", "native", "volatile"};

    private static final String[] TEXTS = {"r0 1;", "r3 5;q4;", "c1;q3;", "c3;q3;p2;", "c3;q4;p3;", "b00000;q4;p3;",
        "b101;p2;q3;", "c1;p3;q1;", "r1 3"};

    public static void main(String[] args) throws IOException {
        Check check = new Check("RulesTest");
        String source = Files.readString(SOURCE, StandardCharsets.UTF_8);
        String code = withoutComments(source);
        for (String word : BANNED_WORDS) {
            check.holds("no " + word, !Pattern.compile("\\b" + word + "\\b").matcher(code).find());
        }
        check.holds("no lambda", !code.contains("->"));
        check.holds("no method reference", !code.contains("::"));
        check.holds("signs 1 to 127 alone", source.chars().allMatch(c -> c >= 1 && c <= 127));
        library(check, code);
        lengths(check, code);
        neverThrows(check);
        check.end();
    }

    /** Rule 7, also for numbers that are far off, and far behind the 512th call, where answers are free. */
    private static void neverThrows(Check check) {
        int[] numbers = {Integer.MIN_VALUE, Integer.MIN_VALUE + 1, -16, -1, 0, 1, 2, 3, 4, 5, 6, 7, 8, 9, 12, 15, 16,
            20, 23, 24, 31, 32, 33, 47, 60, 95, 96, 'r', 'c', 'b', 'p', 'q', ';', ' ', '0', '1', '3', 255, 256,
            1 << 30, Integer.MAX_VALUE - 1, Integer.MAX_VALUE};
        Random random = new Random(7);
        BannedRows x = new BannedRows();
        int calls = 0;
        for (; calls < 300_000; calls++) {
            int a = numbers[random.nextInt(numbers.length)];
            int b = numbers[random.nextInt(numbers.length)];
            int c = numbers[random.nextInt(numbers.length)];
            if (random.nextInt(100) == 0) {
                x.clear();
                View.type(x, TEXTS[random.nextInt(TEXTS.length)]);
                x.tells();
            }
            anyCall(x, random.nextInt(20), a, b, c);
        }
        check.due("calls that end", calls, 300_000);
    }

    private static int anyCall(BannedRows x, int kind, int a, int b, int c) {
        return switch (kind) {
            case 0 -> x.type(a);
            case 1 -> x.clear();
            case 2 -> x.tells();
            case 3 -> x.sends(a);
            case 4 -> x.flips(a);
            case 5 -> x.undo();
            case 6 -> x.step(a, b);
            case 7 -> x.arc(a, b, c);
            case 8 -> x.state(a, b);
            case 9 -> x.weight(a, b, c);
            case 10 -> x.rows(a);
            case 11 -> x.word(a, b);
            case 12 -> x.wrong(a);
            case 13 -> x.sees(a);
            case 14 -> x.forget();
            case 15 -> x.which(a);
            case 16 -> x.ask();
            case 17 -> x.keep(a);
            case 18 -> x.back(a);
            default -> x.count(a);
        };
    }

    private static String withoutComments(String source) {
        return source.replaceAll("(?s)/\\*.*?\\*/", "").replaceAll("//[^\n]*", "");
    }

    private static void library(Check check, String code) {
        List<String> allowed = List.of("System.arraycopy", "Math.max", "Math.min", "Integer.bitCount");
        Matcher calls = Pattern.compile("\\b([A-Z]\\w*[a-z]\\w*)\\.(\\w+)").matcher(code);
        while (calls.find()) {
            check.holds("of the library: " + calls.group(), allowed.contains(calls.group()));
        }
    }

    /** No method is longer than sixty lines: those begin at 4 or 8 blanks and end with a brace there. */
    private static void lengths(Check check, String code) {
        String[] lines = code.split("\n");
        for (int i = 0; i < lines.length; i++) {
            Matcher head = Pattern.compile("( {4}| {8})(?! )[^;=]*\\) \\{").matcher(lines[i]);
            if (head.matches()) {
                int end = i;
                while (end < lines.length - 1 && !lines[end].equals(head.group(1) + "}")) {
                    end++;
                }
                check.holds("short: " + lines[i].trim(), end - i <= 60);
            }
        }
    }
}
