import java.util.ArrayDeque;
import java.util.ArrayList;
import java.util.Arrays;
import java.util.Deque;
import java.util.HashMap;
import java.util.HashSet;
import java.util.List;
import java.util.Map;
import java.util.Set;
import java.util.regex.Matcher;
import java.util.regex.Pattern;

/**
 * The document once more, written by other means than the class: sets by trying all of them, windows by
 * listing all chains of arcs, texts by patterns.
 */
final class Model {
    static final int BAD = -1, STATE = -2, FULL = -3, NONE = -9;

    private static final Pattern TOKEN = Pattern.compile("[0-9]+|[^ ]", Pattern.DOTALL);
    private static final Pattern GRAMMAR = Pattern.compile(
            "(r (0 [1-5]|1 [1-5]|2 [2-5]|3 [3-5]) ; |c [1-3] ; |b [01]{2,5} ; )"
            + "((p [1-3] ; )?(q [1-4] ; )?|q [1-4] ; p [1-3] ; )");

    /** A ban with its rate, and all that follows from them; never changed once made. */
    private static final class Laws {
        final String ban;
        final int p;
        final int q;
        final int states;
        final int start;
        final int[][] step;
        final int[][] end;
        final int[][] tag;
        final int good;
        final int window;
        final Map<List<Integer>, Set<Integer>> firstTags;

        /** ban as TOKENS with one blank between: "r 1 3", "c 2", "b 101". */
        Laws(String ban, int p, int q) {
            this.ban = ban;
            this.p = p;
            this.q = q;
            String[] parts = ban.split(" ");
            char sort = ban.charAt(0);
            states = sort == 'r' ? parts[2].charAt(0) - '0' + 1
                    : sort == 'c' ? 2 * (parts[1].charAt(0) - '0') + 1 : parts[1].length();
            start = sort == 'c' ? parts[1].charAt(0) - '0' : 0;
            step = new int[states][2];
            end = new int[states][1 << q];
            tag = new int[states][1 << q];
            for (int s = 0; s < states; s++) {
                for (int bit = 0; bit < 2; bit++) {
                    step[s][bit] = stepOf(sort, parts, s, bit);
                }
            }
            for (int s = 0; s < states; s++) {
                for (int w = 0; w < 1 << q; w++) {
                    String bits = Integer.toBinaryString(1 << q | w).substring(1);
                    int at = s;
                    for (char bit : bits.toCharArray()) {
                        at = at == NONE ? NONE : step[at][bit - '0'];
                    }
                    end[s][w] = at;
                }
            }
            good = greatestGood();
            setTags();
            Map<List<Integer>, Set<Integer>> found = null;
            int m = good == 0 ? 4 : 0;
            for (; m < 4; m++) {
                found = new HashMap<>();
                for (int s = 0; s < states; s++) {
                    chains(s, m + 1, new ArrayList<>(), NONE, found);
                }
                if (found.values().stream().allMatch(t -> t.size() == 1)) {
                    break;
                }
            }
            window = m == 4 ? NONE : m;
            firstTags = found;
        }

        private int stepOf(char sort, String[] parts, int s, int bit) {
            if (sort == 'r') {
                int d = Integer.parseInt(parts[1]);
                return bit == 0 ? (s + 1 < states ? s + 1 : NONE) : (s >= d ? 0 : NONE);
            }
            if (sort == 'c') {
                int to = s + (bit == 1 ? 1 : -1);
                return to >= 0 && to < states ? to : NONE;
            }
            String f = parts[1];
            String latest = f.substring(0, s) + bit;
            int best = 0;
            for (int n = 0; n <= f.length(); n++) {
                if (latest.endsWith(f.substring(0, n))) {
                    best = n;
                }
            }
            return best == f.length() ? NONE : best;
        }

        private int greatestGood() {
            int best = 0;
            for (int set = 0; set < 1 << states; set++) {
                boolean holds = true;
                for (int s = 0; s < states; s++) {
                    int to = set;
                    long arcs = Arrays.stream(end[s]).filter(e -> e != NONE && (to >> e & 1) == 1).count();
                    holds &= (set >> s & 1) == 0 || arcs >= 1 << p;
                }
                if (holds && Integer.bitCount(set) > Integer.bitCount(best)) {
                    best = set;
                }
            }
            return best;
        }

        private void setTags() {
            for (int s = 0; s < states; s++) {
                int next = 0;
                for (int w = 0; w < 1 << q; w++) {
                    boolean both = isGood(s) && end[s][w] != NONE && isGood(end[s][w]);
                    tag[s][w] = both && next < 1 << p ? next++ : NONE;
                }
            }
        }

        boolean isGood(int s) {
            return (good >> s & 1) == 1;
        }

        private void chains(int s, int left, List<Integer> words, int first, Map<List<Integer>, Set<Integer>> found) {
            if (left == 0) {
                found.computeIfAbsent(List.copyOf(words), k -> new HashSet<>()).add(first);
                return;
            }
            for (int w = 0; w < 1 << q; w++) {
                if (tag[s][w] != NONE) {
                    words.add(w);
                    chains(end[s][w], left - 1, words, words.size() == 1 ? tag[s][w] : first, found);
                    words.remove(words.size() - 1);
                }
            }
        }
    }

    /** All that UNDONE and IMAGES bring again. */
    private static final class Held {
        final Laws laws;
        final List<Integer> tags = new ArrayList<>();
        final List<String> sent = new ArrayList<>();
        final List<String> line = new ArrayList<>();
        int send;

        Held(Laws laws) {
            this.laws = laws;
            send = begin(laws);
        }

        Held copy() {
            Held other = new Held(laws);
            other.tags.addAll(tags);
            other.sent.addAll(sent);
            other.line.addAll(line);
            other.send = send;
            return other;
        }
    }

    private static final Map<String, Laws> KNOWN = new HashMap<>();

    private Held now = new Held(laws("r 1 3", 1, 2));
    private String text = "";
    private final Deque<Held> past = new ArrayDeque<>();
    private final Held[] images = new Held[2];
    private final List<Integer> seen = new ArrayList<>();

    private static Laws laws(String ban, int p, int q) {
        return KNOWN.computeIfAbsent(ban + " p" + p + " q" + q, k -> new Laws(ban, p, q));
    }

    private static int begin(Laws laws) {
        for (int s = 0; s < laws.states; s++) {
            if (laws.isGood(s)) {
                return s;
            }
        }
        return NONE;
    }

    private void remember() {
        past.push(now.copy());
        if (past.size() > 6) {
            past.removeLast();
        }
    }

    int type(int letter) {
        if (letter < 0 || letter > 255) {
            return BAD;
        }
        if (text.length() == 60) {
            return FULL;
        }
        text += (char) letter;
        return text.length();
    }

    int clear() {
        int had = text.length();
        text = "";
        return had;
    }

    int tells() {
        Matcher tokens = TOKEN.matcher(text);
        StringBuilder joined = new StringBuilder();
        while (tokens.find()) {
            joined.append(tokens.group()).append(' ');
            Matcher whole = GRAMMAR.matcher(joined);
            if (!whole.matches() && !whole.hitEnd()) {
                return -10 - tokens.start();
            }
        }
        String all = joined.toString();
        if (!GRAMMAR.matcher(all).matches()) {
            return -10 - text.length();
        }
        remember();
        String ban = all.substring(0, all.indexOf(';')).trim();
        now = new Held(laws(ban, told(all, 'p', 1), told(all, 'q', 2)));
        text = "";
        seen.clear();
        images[0] = null;
        images[1] = null;
        return now.laws.states;
    }

    private static int told(String all, char name, int first) {
        int at = all.indexOf(name);
        return at < 0 ? first : all.charAt(at + 2) - '0';
    }

    int sends(int tag) {
        Laws laws = now.laws;
        if (tag < 0 || tag >= 1 << laws.p) {
            return BAD;
        }
        if (laws.good == 0) {
            return STATE;
        }
        if (now.line.size() == 24) {
            return FULL;
        }
        remember();
        int word = wordWith(now.send, tag);
        now.tags.add(tag);
        String bits = Integer.toBinaryString(1 << laws.q | word).substring(1);
        now.sent.add(bits);
        now.line.add(bits);
        now.send = laws.end[now.send][word];
        return word;
    }

    private int wordWith(int s, int tag) {
        for (int w = 0; w < 1 << now.laws.q; w++) {
            if (now.laws.tag[s][w] == tag) {
                return w;
            }
        }
        throw new IllegalStateException("no such tag");
    }

    int flips(int bit) {
        String all = String.join("", now.line);
        if (bit < 0 || bit >= all.length()) {
            return BAD;
        }
        remember();
        int q = now.laws.q;
        char[] bits = all.toCharArray();
        bits[bit] = bits[bit] == '0' ? '1' : '0';
        String turned = new String(bits);
        for (int i = 0; i < now.line.size(); i++) {
            now.line.set(i, turned.substring(i * q, i * q + q));
        }
        return bits[bit] - '0';
    }

    int undo() {
        if (past.isEmpty()) {
            return STATE;
        }
        now = past.pop();
        return past.size();
    }

    private boolean isState(int s) {
        return s >= 0 && s < now.laws.states;
    }

    private boolean isWord(int w) {
        return w >= 0 && w < 1 << now.laws.q;
    }

    int step(int s, int bit) {
        return isState(s) && (bit == 0 || bit == 1) ? now.laws.step[s][bit] : BAD;
    }

    int arc(int s, int w, int what) {
        if (!isState(s) || !isWord(w) || what != 0 && what != 1) {
            return BAD;
        }
        return (what == 0 ? now.laws.end : now.laws.tag)[s][w];
    }

    int state(int s, int what) {
        if (!isState(s) || what != 0 && what != 1) {
            return BAD;
        }
        return what == 1 ? now.laws.good >> s & 1
                : (int) Arrays.stream(now.laws.end[s]).filter(e -> e != NONE).count();
    }

    int weight(int s, int l, int what) {
        if (!isState(s) || l < 1 || l > 9 || what != 0 && what != 1) {
            return BAD;
        }
        int[] weights = new int[now.laws.states];
        Arrays.fill(weights, l);
        for (int[] next = lessened(weights); !Arrays.equals(next, weights); next = lessened(weights)) {
            weights = next;
        }
        int all = Arrays.stream(weights).sum();
        return what == 0 ? weights[s] : all == 0 ? 0 : weights[s] * 1000 / all;
    }

    private int[] lessened(int[] weights) {
        int[] next = weights.clone();
        for (int s = 0; s < next.length; s++) {
            int sum = Arrays.stream(now.laws.end[s]).filter(e -> e != NONE).map(e -> weights[e]).sum();
            next[s] = Math.min(weights[s], sum / (1 << now.laws.p));
        }
        return next;
    }

    int rows(int n) {
        return n < 0 || n > 20 ? BAD : rowsFrom(now.laws.start, n, new int[now.laws.states][21]);
    }

    private int rowsFrom(int s, int n, int[][] known) {
        if (s == NONE) {
            return 0;
        }
        if (n == 0) {
            return 1;
        }
        if (known[s][n] == 0) {
            known[s][n] = 1 + rowsFrom(now.laws.step[s][0], n - 1, known) + rowsFrom(now.laws.step[s][1], n - 1, known);
        }
        return known[s][n] - 1;
    }

    private int bitsAt(int i) {
        return Integer.parseInt(now.line.get(i), 2);
    }

    private List<Integer> readByStates() {
        List<Integer> read = new ArrayList<>();
        int at = begin(now.laws);
        for (int i = 0; i < now.line.size(); i++) {
            int t = now.laws.tag[at][bitsAt(i)];
            read.add(t);
            at = t == NONE ? at : now.laws.end[at][bitsAt(i)];
        }
        return read;
    }

    private List<Integer> readByWindow() {
        List<Integer> read = new ArrayList<>();
        int m = now.laws.window;
        for (int i = 0; i < now.line.size(); i++) {
            List<Integer> words = new ArrayList<>();
            for (int k = i; k <= i + m && k < now.line.size(); k++) {
                words.add(bitsAt(k));
            }
            boolean known = m != NONE && now.laws.firstTags.containsKey(words);
            read.add(known ? now.laws.firstTags.get(words).iterator().next() : Integer.valueOf(NONE));
        }
        return read;
    }

    int word(int i, int what) {
        if (i < 0 || i >= now.line.size() || what < 0 || what > 3) {
            return BAD;
        }
        return what == 0 ? bitsAt(i) : what == 1 ? now.tags.get(i)
                : what == 2 ? readByStates().get(i) : readByWindow().get(i);
    }

    int wrong(int how) {
        if (how != 0 && how != 1) {
            return BAD;
        }
        List<Integer> read = how == 0 ? readByStates() : readByWindow();
        int others = 0;
        for (int i = 0; i < read.size(); i++) {
            others += read.get(i).equals(now.tags.get(i)) ? 0 : 1;
        }
        return others;
    }

    int sees(int word) {
        if (!isWord(word)) {
            return BAD;
        }
        if (seen.size() == 6) {
            return FULL;
        }
        seen.add(word);
        return seen.size();
    }

    int forget() {
        int were = seen.size();
        seen.clear();
        return were;
    }

    int which(int what) {
        if (what != 0 && what != 1) {
            return BAD;
        }
        int from = 0;
        int there = 0;
        for (int s = 0; s < now.laws.states; s++) {
            int at = now.laws.isGood(s) ? s : NONE;
            for (int w : seen) {
                at = at == NONE || !isWord(w) || now.laws.tag[at][w] == NONE ? NONE : now.laws.end[at][w];
            }
            if (at != NONE) {
                from |= 1 << s;
                there |= 1 << at;
            }
        }
        return what == 0 ? from : there;
    }

    int ask() {
        int there = which(1);
        if (Integer.bitCount(there) <= 1) {
            return NONE;
        }
        int[] greatest = new int[1 << now.laws.p];
        for (int t = 0; t < greatest.length; t++) {
            int[] having = new int[16];
            for (int s = 0; s < now.laws.states; s++) {
                if ((there >> s & 1) == 1) {
                    having[wordWith(s, t)]++;
                }
            }
            greatest[t] = Arrays.stream(having).max().getAsInt();
        }
        int least = Arrays.stream(greatest).min().getAsInt();
        int tag = 0;
        while (greatest[tag] != least) {
            tag++;
        }
        return tag;
    }

    int keep(int image) {
        if (image != 0 && image != 1) {
            return BAD;
        }
        images[image] = now.copy();
        return now.line.size();
    }

    int back(int image) {
        if (image != 0 && image != 1) {
            return BAD;
        }
        if (images[image] == null) {
            return STATE;
        }
        now = images[image].copy();
        past.clear();
        return now.line.size();
    }

    int count(int what) {
        if (what < 0 || what > 12) {
            return BAD;
        }
        Laws laws = now.laws;
        String is = String.join("", now.line);
        String was = String.join("", now.sent);
        int turned = 0;
        for (int i = 0; i < is.length(); i++) {
            turned += is.charAt(i) == was.charAt(i) ? 0 : 1;
        }
        int[] all = {laws.states, laws.start, laws.p, laws.q, laws.good, begin(laws), now.send, laws.window,
            now.line.size(), turned, seen.size(), text.length(), past.size()};
        return all[what];
    }
}
