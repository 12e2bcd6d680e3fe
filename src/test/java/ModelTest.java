import java.util.ArrayList;
import java.util.List;
import java.util.Random;

/** The class against the Model: every ban at every rate, and long runs of calls by a fixed seed. */
public final class ModelTest {
    private static final int CALLS = 512;
    private static final Check CHECK = new Check("ModelTest");

    public static void main(String[] args) {
        List<String> bans = bans();
        for (String ban : bans) {
            for (int p = 1; p <= 3; p++) {
                for (int q = 1; q <= 4; q++) {
                    everyAnswer(ban + ";p" + p + ";q" + q + ";");
                }
            }
        }
        for (int run = 0; run < 1500 && !CHECK.hasWrong(); run++) {
            longRun(run, bans);
        }
        CHECK.end();
    }

    private static List<String> bans() {
        List<String> all = new ArrayList<>();
        for (int d = 0; d <= 3; d++) {
            for (int k = Math.max(d, 1); k <= 5; k++) {
                all.add("r" + d + " " + k);
            }
        }
        for (int c = 1; c <= 3; c++) {
            all.add("c" + c);
        }
        for (int length = 2; length <= 5; length++) {
            for (int bits = 0; bits < 1 << length; bits++) {
                all.add("b" + Integer.toBinaryString(1 << length | bits).substring(1));
            }
        }
        return all;
    }

    /** An object and a Model that were told the same. */
    private record Twins(BannedRows x, Model y) {
        static Twins told(String text) {
            Twins both = new Twins(new BannedRows(), new Model());
            for (char letter : text.toCharArray()) {
                both.x.type(letter);
                both.y.type(letter);
            }
            same(text + " tells", both.x.tells(), both.y.tells());
            return both;
        }
    }

    private static void everyAnswer(String text) {
        everyCount(text, Twins.told(text));
        for (int s = -1; s <= 7; s++) {
            everyOfState(text, s, Twins.told(text));
        }
        everySeen(text, Twins.told(text));
    }

    private static void everyCount(String text, Twins both) {
        for (int what = -1; what <= 13; what++) {
            same(text + " count " + what, both.x.count(what), both.y.count(what));
        }
        for (int n = -1; n <= 21; n++) {
            same(text + " rows " + n, both.x.rows(n), both.y.rows(n));
        }
    }

    private static void everyOfState(String text, int s, Twins both) {
        BannedRows x = both.x;
        Model y = both.y;
        for (int what = -1; what <= 2; what++) {
            same(text + " step " + s + " " + what, x.step(s, what), y.step(s, what));
            same(text + " state " + s + " " + what, x.state(s, what), y.state(s, what));
            for (int w = -1; w <= 16; w++) {
                same(text + " arc " + s + " " + w + " " + what, x.arc(s, w, what), y.arc(s, w, what));
            }
            for (int l = 0; l <= 10; l++) {
                same(text + " weight " + s + " " + l + " " + what, x.weight(s, l, what), y.weight(s, l, what));
            }
        }
    }

    private static void everySeen(String text, Twins both) {
        BannedRows x = both.x;
        Model y = both.y;
        for (int w = -1; w <= 16; w++) {
            same(text + " sees " + w, x.sees(w), y.sees(w));
            same(text + " which 0", x.which(0), y.which(0));
            same(text + " which 1", x.which(1), y.which(1));
            same(text + " ask", x.ask(), y.ask());
            same(text + " forget", x.forget(), y.forget());
        }
    }

    /** As many calls as an object is promised to answer, the last one too. */
    private static void longRun(int seed, List<String> bans) {
        Random random = new Random(seed);
        BannedRows x = new BannedRows();
        Model y = new Model();
        StringBuilder told = new StringBuilder("run " + seed);
        int calls = 0;
        while (calls < CALLS && !CHECK.hasWrong()) {
            boolean isTold = random.nextInt(12) == 0;
            String text = random.nextInt(3) == 0 ? spoilt(random, bans) : sound(random, bans);
            if (isTold && calls + text.length() + 2 <= CALLS) {
                for (char letter : text.toCharArray()) {
                    same(told + " type", x.type(letter), y.type(letter));
                }
                told.append(" \"").append(text).append('"');
                same(told + " tells", x.tells(), y.tells());
                calls += text.length() + 1;
                if (random.nextInt(2) == 0) {
                    told.append(" clear");
                    same(told.toString(), x.clear(), y.clear());
                    calls++;
                }
            } else {
                int kind = random.nextInt(20);
                int a = number(random, boundOf(kind, y));
                int b = number(random, 16);
                int c = number(random, 2);
                told.append(" " + kind + "(" + a + " " + b + " " + c + ")");
                both(told.toString(), kind, new int[] {a, b, c}, x, y);
                calls++;
            }
        }
    }

    /** Below which number the first argument of a call is mostly as told. */
    private static int boundOf(int kind, Model y) {
        return switch (kind) {
            case 1, 2, 3 -> 1 << y.count(2);
            case 4 -> y.count(8) * y.count(3);
            case 6, 7, 8, 9 -> y.count(0);
            case 11, 12 -> y.count(8);
            case 14 -> 1 << y.count(3);
            default -> 8;
        };
    }

    /** Mostly 0 to below a bound, at times a little or far outside. */
    private static int number(Random random, int bound) {
        int far = random.nextInt(200);
        return far == 0 ? Integer.MIN_VALUE : far == 1 ? Integer.MAX_VALUE : far < 6 ? -1
                : far < 11 ? bound : random.nextInt(Math.max(1, bound));
    }

    private static String sound(Random random, List<String> bans) {
        String ban = bans.get(random.nextInt(random.nextInt(2) == 0 ? 20 : bans.size()));
        String p = random.nextInt(3) == 0 ? "" : "p" + (1 + random.nextInt(random.nextInt(2) == 0 ? 1 : 3)) + ";";
        String q = random.nextInt(3) == 0 ? "" : "q" + (1 + random.nextInt(4)) + ";";
        String all = random.nextInt(2) == 0 ? ban + ";" + p + q : ban + ";" + q + p;
        return random.nextInt(3) == 0 ? " " + all.replace(";", " ; ") : all;
    }

    private static String spoilt(Random random, List<String> bans) {
        StringBuilder text = new StringBuilder(sound(random, bans));
        String letters = "rcbpq;0123456789 01;pq\u0000\t\u00e9A";
        for (int i = random.nextInt(3); i >= 0; i--) {
            int at = random.nextInt(text.length() + 1);
            char letter = letters.charAt(random.nextInt(letters.length()));
            if (random.nextInt(2) == 0 || at == text.length()) {
                text.insert(at, letter);
            } else if (random.nextInt(2) == 0) {
                text.setCharAt(at, letter);
            } else {
                text.setLength(at);
            }
        }
        return text.toString();
    }

    private static void both(String told, int kind, int[] n, BannedRows x, Model y) {
        int a = n[0];
        int b = n[1];
        int c = n[2];
        int d = Math.floorMod(b, 14);
        switch (kind) {
            case 0 -> same(told, x.type(a), y.type(a));
            case 1, 2, 3 -> same(told, x.sends(a), y.sends(a));
            case 4 -> same(told, x.flips(a), y.flips(a));
            case 5 -> same(told, x.undo(), y.undo());
            case 6 -> same(told, x.step(a, c), y.step(a, c));
            case 7 -> same(told, x.arc(a, b, c), y.arc(a, b, c));
            case 8 -> same(told, x.state(a, c), y.state(a, c));
            case 9 -> same(told, x.weight(a, d, c), y.weight(a, d, c));
            case 10 -> same(told, x.rows(a + b), y.rows(a + b));
            case 11, 12 -> same(told, x.word(a, d % 5), y.word(a, d % 5));
            case 13 -> same(told, x.wrong(c), y.wrong(c));
            case 14 -> same(told, x.sees(a), y.sees(a));
            case 15 -> same(told, b < 3 ? x.forget() : x.which(c), b < 3 ? y.forget() : y.which(c));
            case 16 -> same(told, x.ask(), y.ask());
            case 17 -> same(told, x.keep(c), y.keep(c));
            case 18 -> same(told, b < 5 ? x.back(c) : x.count(d), b < 5 ? y.back(c) : y.count(d));
            default -> same(told, x.count(d), y.count(d));
        }
    }

    private static void same(String what, int got, int want) {
        CHECK.due(what, got, want);
    }
}
