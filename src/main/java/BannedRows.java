/**
 * Rows of bits that obey a ban. A ban is a small machine of states; words of bits are arcs between
 * them; tags on arcs turn data into words and words back into data, also when a line turned bits.
 */
public final class BannedRows {
    public static final int BAD = -1, STATE = -2, FULL = -3, NONE = -9;

    private static final int TEXT_ROOM = 60;
    private static final int LINE_ROOM = 24;
    private static final int SEEN_ROOM = 6;
    private static final int PAST_ROOM = 6;
    private static final int IMAGE_ROOM = 2;
    /** CHARGE with C 3 has the most STATES. */
    private static final int STATE_ROOM = 7;
    /** As many WORDS as 4 bits make. */
    private static final int WORD_ROOM = 16;
    private static final int WIDEST_WINDOW = 3;
    private static final int LONGEST_ROW = 20;
    private static final int GREATEST_L = 9;
    /** What tells() answers for a FAULT at place 0. */
    private static final int FIRST_FAULT = -10;
    private static final int NO_FAULT = -1;

    private static final int RUNS = 0;
    private static final int CHARGE = 1;
    private static final int WORD = 2;

    private final Text text;
    /** Where a text is read to, so that a text with a FAULT changes nothing. */
    private final Ban told;
    private final Held now;
    private final Arcs arcs;
    private final Sums sums;
    private final Held[] past;
    private int pastSize;
    private final Held[] images;
    private final boolean[] kept;
    private final int[] seen;
    private int seenSize;

    public BannedRows() {
        text = new Text();
        told = new Ban();
        now = new Held();
        arcs = new Arcs();
        sums = new Sums();
        past = new Held[PAST_ROOM];
        for (int i = 0; i < PAST_ROOM; i++) {
            past[i] = new Held();
        }
        images = new Held[IMAGE_ROOM];
        for (int i = 0; i < IMAGE_ROOM; i++) {
            images[i] = new Held();
        }
        kept = new boolean[IMAGE_ROOM];
        seen = new int[SEEN_ROOM];
        arcs.build(now.ban);
        now.line.empty(arcs.begin);
    }

    // ---- what is told

    public int type(int letter) {
        if (letter < 0 || letter > 255) {
            return BAD;
        }
        if (text.size >= TEXT_ROOM) {
            return FULL;
        }
        text.append(letter);
        return text.size;
    }

    public int clear() {
        int had = text.size;
        text.size = 0;
        return had;
    }

    public int tells() {
        int fault = text.readTo(told);
        if (fault != NO_FAULT) {
            return FIRST_FAULT - fault;
        }
        remember();
        now.ban.copy(told);
        arcs.build(now.ban);
        now.line.empty(arcs.begin);
        text.size = 0;
        seenSize = 0;
        for (int i = 0; i < IMAGE_ROOM; i++) {
            kept[i] = false;
        }
        return arcs.states;
    }

    // ---- what is done

    public int sends(int tag) {
        if (tag < 0 || tag >= now.ban.tagCount()) {
            return BAD;
        }
        if (arcs.good == 0) {
            return STATE;
        }
        Line line = now.line;
        if (line.size >= LINE_ROOM) {
            return FULL;
        }
        remember();
        int sent = arcs.wordWith(line.send, tag);
        line.append(sent, tag, arcs.endOf(line.send, sent));
        return sent;
    }

    public int flips(int bit) {
        int q = now.ban.q;
        if (q < 1 || bit < 0 || bit >= now.line.size * q) {
            return BAD;
        }
        remember();
        return now.line.turn(bit / q, q - 1 - bit % q);
    }

    public int undo() {
        if (pastSize < 1 || pastSize > PAST_ROOM) {
            return STATE;
        }
        pastSize--;
        become(past[pastSize]);
        return pastSize;
    }

    // ---- states, arcs

    public int step(int state, int bit) {
        if (isNoState(state) || bit < 0 || bit > 1) {
            return BAD;
        }
        return now.ban.lead(state, bit);
    }

    public int arc(int state, int word, int what) {
        if (isNoState(state) || isNoWord(word) || what < 0 || what > 1) {
            return BAD;
        }
        return what == 0 ? arcs.endOf(state, word) : arcs.tagOf(state, word);
    }

    public int state(int state, int what) {
        if (isNoState(state) || what < 0 || what > 1) {
            return BAD;
        }
        if (what == 0) {
            return arcs.arcsFrom(state);
        }
        return arcs.isGood(state) ? 1 : 0;
    }

    public int weight(int state, int l, int what) {
        if (isNoState(state) || l < 1 || l > GREATEST_L || what < 0 || what > 1) {
            return BAD;
        }
        sums.settle(arcs, now.ban.p, l);
        return what == 0 ? sums.at(state) : sums.shareOf(state);
    }

    public int rows(int n) {
        if (n < 0 || n > LONGEST_ROW) {
            return BAD;
        }
        return sums.countRows(now.ban, n);
    }

    // ---- the line

    public int word(int i, int what) {
        if (i < 0 || i >= now.line.size || what < 0 || what > 3) {
            return BAD;
        }
        switch (what) {
            case 0:
                return now.line.wordAt(i);
            case 1:
                return now.line.tagAt(i);
            case 2:
                return readByStates(i);
            default:
                return readByWindow(i);
        }
    }

    public int wrong(int how) {
        if (how < 0 || how > 1) {
            return BAD;
        }
        int others = 0;
        for (int i = 0; i < now.line.size; i++) {
            int read = how == 0 ? readByStates(i) : readByWindow(i);
            if (read != now.line.tagAt(i)) {
                others++;
            }
        }
        return others;
    }

    // ---- in which state

    public int sees(int word) {
        if (isNoWord(word)) {
            return BAD;
        }
        if (seenSize < 0 || seenSize >= SEEN_ROOM) {
            return FULL;
        }
        seen[seenSize] = word;
        seenSize++;
        return seenSize;
    }

    public int forget() {
        int were = seenSize;
        seenSize = 0;
        return were;
    }

    public int which(int what) {
        if (what < 0 || what > 1) {
            return BAD;
        }
        return what == 0 ? origins() : presentStates();
    }

    public int ask() {
        int there = presentStates();
        if (Integer.bitCount(there) < 2) {
            return NONE;
        }
        int best = NONE;
        int least = STATE_ROOM + 1;
        for (int tag = 0; tag < now.ban.tagCount(); tag++) {
            int most = arcs.mostAlike(there, tag);
            if (most < least) {
                least = most;
                best = tag;
            }
        }
        return best;
    }

    // ---- images

    public int keep(int image) {
        if (isNoImage(image)) {
            return BAD;
        }
        Held held = images[image];
        if (held == null) {
            return BAD;
        }
        held.copy(now);
        kept[image] = true;
        return now.line.size;
    }

    public int back(int image) {
        if (isNoImage(image)) {
            return BAD;
        }
        if (!kept[image]) {
            return STATE;
        }
        become(images[image]);
        pastSize = 0;
        return now.line.size;
    }

    public int count(int what) {
        switch (what) {
            case 0:
                return arcs.states;
            case 1:
                return now.ban.start();
            case 2:
                return now.ban.p;
            case 3:
                return now.ban.q;
            case 4:
                return arcs.good;
            case 5:
                return arcs.begin;
            case 6:
                return now.line.send;
            case 7:
                return arcs.window;
            case 8:
                return now.line.size;
            case 9:
                return now.line.turnedBits();
            case 10:
                return seenSize;
            case 11:
                return text.size;
            case 12:
                return pastSize;
            default:
                return BAD;
        }
    }

    private boolean isNoState(int state) {
        return state < 0 || state >= arcs.states;
    }

    private boolean isNoWord(int word) {
        return word < 0 || word >= now.ban.wordCount();
    }

    private static boolean isNoImage(int image) {
        return image < 0 || image >= IMAGE_ROOM;
    }

    /** Makes what is there now the latest that undo() knows; the oldest is lost when there is no room. */
    private void remember() {
        if (pastSize >= PAST_ROOM) {
            Held oldest = past[0];
            for (int i = 1; i < PAST_ROOM; i++) {
                past[i - 1] = past[i];
            }
            past[PAST_ROOM - 1] = oldest;
            pastSize = PAST_ROOM - 1;
        }
        Held latest = pastSize < 0 ? null : past[pastSize];
        if (latest != null) {
            latest.copy(now);
            pastSize++;
        }
    }

    private void become(Held held) {
        if (held != null) {
            now.copy(held);
            arcs.build(now.ban);
        }
    }

    private int readByStates(int i) {
        int state = arcs.begin;
        int tag = NONE;
        for (int k = 0; k <= i; k++) {
            int word = now.line.wordAt(k);
            tag = arcs.tagOf(state, word);
            if (tag != NONE) {
                state = arcs.endOf(state, word);
            }
        }
        return tag;
    }

    private int readByWindow(int i) {
        int ahead = arcs.window;
        if (ahead < 0 || i + ahead >= now.line.size) {
            return NONE;
        }
        for (int state = 0; state < arcs.states; state++) {
            if (arcs.follow(state, now.line.words, i, ahead + 1) != NONE) {
                return arcs.tagOf(state, now.line.wordAt(i));
            }
        }
        return NONE;
    }

    /** WHICH, as bits. */
    private int origins() {
        int bits = 0;
        for (int state = 0; state < arcs.states; state++) {
            if (endOfSeen(state) != NONE) {
                bits |= 1 << state;
            }
        }
        return bits;
    }

    /** THERE, as bits. */
    private int presentStates() {
        int bits = 0;
        for (int state = 0; state < arcs.states; state++) {
            int end = endOfSeen(state);
            if (end != NONE) {
                bits |= 1 << end;
            }
        }
        return bits;
    }

    private int endOfSeen(int state) {
        return arcs.isGood(state) ? arcs.follow(state, seen, 0, seenSize) : NONE;
    }

    /** A BAN, and the rate P by Q at which data go. */
    private static final class Ban {
        int sort;
        /** D of RUNS, C of CHARGE, the bits of F. */
        int low;
        /** K of RUNS, how many bits F has. */
        int high;
        int p;
        int q;

        Ban() {
            setFirst();
        }

        void setFirst() {
            sort = RUNS;
            low = 1;
            high = 3;
            p = 1;
            q = 2;
        }

        void copy(Ban other) {
            sort = other.sort;
            low = other.low;
            high = other.high;
            p = other.p;
            q = other.q;
        }

        int tagCount() {
            return 1 << p;
        }

        int wordCount() {
            return 1 << q;
        }

        int stateCount() {
            switch (sort) {
                case RUNS:
                    return high + 1;
                case CHARGE:
                    return 2 * low + 1;
                default:
                    return high;
            }
        }

        int start() {
            return sort == CHARGE ? low : 0;
        }

        int lead(int from, int bit) {
            switch (sort) {
                case RUNS:
                    return leadOfRuns(from, bit);
                case CHARGE:
                    return leadOfCharge(from, bit);
                default:
                    return leadOfWord(from, bit);
            }
        }

        private int leadOfRuns(int from, int bit) {
            if (bit == 0) {
                return from < high ? from + 1 : NONE;
            }
            return from >= low ? 0 : NONE;
        }

        private int leadOfCharge(int from, int bit) {
            int to = bit == 1 ? from + 1 : from - 1;
            return to < 0 || to > 2 * low ? NONE : to;
        }

        private int leadOfWord(int from, int bit) {
            int latest = firstBits(from) << 1 | bit;
            for (int length = from + 1; length > 0; length--) {
                int end = latest & ((1 << length) - 1);
                if (end == firstBits(length)) {
                    return length == high ? NONE : length;
                }
            }
            return 0;
        }

        private int firstBits(int length) {
            return low >> (high - length);
        }
    }

    /** THE LINE, and SEND. */
    private static final class Line {
        final int[] words;
        private final int[] sentWords;
        private final int[] sentTags;
        int size;
        int send;

        Line() {
            words = new int[LINE_ROOM];
            sentWords = new int[LINE_ROOM];
            sentTags = new int[LINE_ROOM];
            size = 0;
            send = NONE;
        }

        void empty(int begin) {
            size = 0;
            send = begin;
        }

        void copy(Line other) {
            System.arraycopy(other.words, 0, words, 0, LINE_ROOM);
            System.arraycopy(other.sentWords, 0, sentWords, 0, LINE_ROOM);
            System.arraycopy(other.sentTags, 0, sentTags, 0, LINE_ROOM);
            size = other.size;
            send = other.send;
        }

        void append(int sent, int tag, int next) {
            if (size < 0 || size >= LINE_ROOM) {
                return;
            }
            words[size] = sent;
            sentWords[size] = sent;
            sentTags[size] = tag;
            size++;
            send = next;
        }

        /** Turns the bit of a WORD that stands so many places ahead of its last one. */
        int turn(int i, int place) {
            if (i < 0 || i >= LINE_ROOM) {
                return BAD;
            }
            words[i] ^= 1 << place;
            return words[i] >> place & 1;
        }

        int wordAt(int i) {
            return i < 0 || i >= LINE_ROOM ? NONE : words[i];
        }

        int tagAt(int i) {
            return i < 0 || i >= LINE_ROOM ? NONE : sentTags[i];
        }

        int turnedBits() {
            int bits = 0;
            for (int i = 0; i < size && i < LINE_ROOM; i++) {
                bits += Integer.bitCount(words[i] ^ sentWords[i]);
            }
            return bits;
        }
    }

    /** All that undo() and back() bring again. */
    private static final class Held {
        final Ban ban;
        final Line line;

        Held() {
            ban = new Ban();
            line = new Line();
        }

        void copy(Held other) {
            ban.copy(other.ban);
            line.copy(other.line);
        }
    }

    /** What follows from a Ban alone: ARCS, GOOD, TAGS, BEGIN, WINDOW. */
    private static final class Arcs {
        int states;
        int good;
        int begin;
        int window;
        /** Where the ARC of a STATE over a WORD leads, or NONE, at STATE times WORD_ROOM and WORD. */
        private final int[] ends;
        private final int[] tags;
        /** Of each STATE, as bits, those from which the same WORDS can come for as long as is looked at. */
        private final int[] mates;
        private final int[] nextMates;

        Arcs() {
            ends = new int[STATE_ROOM * WORD_ROOM];
            tags = new int[STATE_ROOM * WORD_ROOM];
            mates = new int[STATE_ROOM];
            nextMates = new int[STATE_ROOM];
        }

        void build(Ban ban) {
            states = Math.min(ban.stateCount(), STATE_ROOM);
            setEnds(ban);
            setGood(ban.tagCount());
            setTags(ban.tagCount());
            begin = lowestGood();
            window = narrowestWindow();
        }

        int endOf(int state, int word) {
            if (state < 0 || state >= STATE_ROOM || word < 0 || word >= WORD_ROOM) {
                return NONE;
            }
            return ends[state * WORD_ROOM + word];
        }

        int tagOf(int state, int word) {
            if (state < 0 || state >= STATE_ROOM || word < 0 || word >= WORD_ROOM) {
                return NONE;
            }
            return tags[state * WORD_ROOM + word];
        }

        boolean isGood(int state) {
            return has(good, state);
        }

        int arcsFrom(int state) {
            int found = 0;
            for (int word = 0; word < WORD_ROOM; word++) {
                if (endOf(state, word) != NONE) {
                    found++;
                }
            }
            return found;
        }

        int wordWith(int state, int tag) {
            for (int word = 0; word < WORD_ROOM; word++) {
                if (tagOf(state, word) == tag) {
                    return word;
                }
            }
            return NONE;
        }

        /** Where ARCS with TAGS lead from a STATE over so many of the WORDS, or NONE. */
        int follow(int state, int[] words, int from, int length) {
            if (from < 0 || from + length > words.length) {
                return NONE;
            }
            int at = state;
            for (int i = from; i < from + length; i++) {
                if (tagOf(at, words[i]) == NONE) {
                    return NONE;
                }
                at = endOf(at, words[i]);
            }
            return at;
        }

        /** The greatest number of these STATES that have one WORD for a TAG. */
        int mostAlike(int bits, int tag) {
            int most = 0;
            for (int state = 0; state < states; state++) {
                if (has(bits, state)) {
                    most = Math.max(most, withWord(bits, tag, wordWith(state, tag)));
                }
            }
            return most;
        }

        private int withWord(int bits, int tag, int word) {
            int found = 0;
            for (int state = 0; state < states; state++) {
                if (has(bits, state) && wordWith(state, tag) == word) {
                    found++;
                }
            }
            return found;
        }

        private static boolean has(int bits, int state) {
            return state >= 0 && state < STATE_ROOM && (bits >> state & 1) == 1;
        }

        private void setEnds(Ban ban) {
            for (int state = 0; state < STATE_ROOM; state++) {
                for (int word = 0; word < WORD_ROOM; word++) {
                    boolean isThere = state < states && word < ban.wordCount();
                    ends[state * WORD_ROOM + word] = isThere ? leadOver(ban, state, word) : NONE;
                }
            }
        }

        private static int leadOver(Ban ban, int state, int word) {
            int at = state;
            for (int place = ban.q - 1; place >= 0 && at != NONE; place--) {
                at = ban.lead(at, word >> place & 1);
            }
            return at;
        }

        /** Takes out STATES that have too few ARCS to those left, till none is taken out. */
        private void setGood(int needed) {
            good = (1 << states) - 1;
            for (int round = 0; round <= STATE_ROOM; round++) {
                int left = 0;
                for (int state = 0; state < states; state++) {
                    if (has(good, state) && arcsToGood(state) >= needed) {
                        left |= 1 << state;
                    }
                }
                if (left == good) {
                    break;
                }
                good = left;
            }
        }

        private int lowestGood() {
            for (int state = 0; state < states; state++) {
                if (has(good, state)) {
                    return state;
                }
            }
            return NONE;
        }

        private int arcsToGood(int state) {
            int found = 0;
            for (int word = 0; word < WORD_ROOM; word++) {
                if (has(good, endOf(state, word))) {
                    found++;
                }
            }
            return found;
        }

        private void setTags(int needed) {
            for (int state = 0; state < STATE_ROOM; state++) {
                int tag = 0;
                for (int word = 0; word < WORD_ROOM; word++) {
                    boolean isTagged = has(good, state) && has(good, endOf(state, word)) && tag < needed;
                    tags[state * WORD_ROOM + word] = isTagged ? tag : NONE;
                    if (isTagged) {
                        tag++;
                    }
                }
            }
        }

        private int narrowestWindow() {
            if (good == 0) {
                return NONE;
            }
            for (int state = 0; state < STATE_ROOM; state++) {
                mates[state] = good;
            }
            for (int ahead = 0; ahead <= WIDEST_WINDOW; ahead++) {
                if (!isDoubtful()) {
                    return ahead;
                }
                lengthenMates();
            }
            return NONE;
        }

        /** Whether two ARCS over one WORD have other TAGS and then can go on over the same WORDS. */
        private boolean isDoubtful() {
            for (int one = 0; one < states; one++) {
                for (int other = 0; other < one; other++) {
                    for (int word = 0; word < WORD_ROOM; word++) {
                        if (goOnAlike(one, other, word) && tagOf(one, word) != tagOf(other, word)) {
                            return true;
                        }
                    }
                }
            }
            return false;
        }

        private boolean goOnAlike(int one, int other, int word) {
            if (tagOf(one, word) == NONE || tagOf(other, word) == NONE) {
                return false;
            }
            int end = endOf(one, word);
            return end >= 0 && end < STATE_ROOM && has(mates[end], endOf(other, word));
        }

        private void lengthenMates() {
            for (int one = 0; one < STATE_ROOM; one++) {
                int bits = 0;
                for (int other = 0; other < STATE_ROOM; other++) {
                    for (int word = 0; word < WORD_ROOM; word++) {
                        if (goOnAlike(one, other, word)) {
                            bits |= 1 << other;
                        }
                    }
                }
                nextMates[one] = bits;
            }
            System.arraycopy(nextMates, 0, mates, 0, STATE_ROOM);
        }
    }

    /** A number for each STATE, made anew from those of where its bits or ARCS lead. */
    private static final class Sums {
        /** Far above what can be: each round makes one of 7 WEIGHTS less, and 9 is the greatest. */
        private static final int ROUNDS = 100;

        private final int[] values;
        private final int[] next;

        Sums() {
            values = new int[STATE_ROOM];
            next = new int[STATE_ROOM];
        }

        int at(int state) {
            return state < 0 || state >= STATE_ROOM ? 0 : values[state];
        }

        int countRows(Ban ban, int n) {
            setAll(STATE_ROOM, 0);
            int start = ban.start();
            if (start >= 0 && start < STATE_ROOM) {
                values[start] = 1;
            }
            for (int i = 0; i < n; i++) {
                lengthenRows(ban);
            }
            return total();
        }

        void settle(Arcs arcs, int p, int l) {
            setAll(arcs.states, l);
            boolean isChanged = true;
            for (int round = 0; round < ROUNDS && isChanged; round++) {
                isChanged = lessen(arcs, p);
            }
        }

        int shareOf(int state) {
            int all = total();
            return all == 0 ? 0 : 1000 * at(state) / all;
        }

        private void setAll(int states, int value) {
            for (int state = 0; state < STATE_ROOM; state++) {
                values[state] = state < states ? value : 0;
            }
        }

        private int total() {
            int all = 0;
            for (int state = 0; state < STATE_ROOM; state++) {
                all += values[state];
            }
            return all;
        }

        private void lengthenRows(Ban ban) {
            for (int state = 0; state < STATE_ROOM; state++) {
                next[state] = 0;
            }
            for (int state = 0; state < STATE_ROOM && state < ban.stateCount(); state++) {
                for (int bit = 0; bit <= 1; bit++) {
                    int end = ban.lead(state, bit);
                    if (end >= 0 && end < STATE_ROOM) {
                        next[end] += values[state];
                    }
                }
            }
            System.arraycopy(next, 0, values, 0, STATE_ROOM);
        }

        private boolean lessen(Arcs arcs, int p) {
            boolean isChanged = false;
            for (int state = 0; state < STATE_ROOM; state++) {
                next[state] = Math.min(values[state], sumOver(arcs, state) >> p);
                if (next[state] != values[state]) {
                    isChanged = true;
                }
            }
            System.arraycopy(next, 0, values, 0, STATE_ROOM);
            return isChanged;
        }

        private int sumOver(Arcs arcs, int state) {
            int sum = 0;
            for (int word = 0; word < WORD_ROOM; word++) {
                sum += at(arcs.endOf(state, word));
            }
            return sum;
        }
    }

    /** THE TEXT, and the reading of it. */
    private static final class Text {
        private static final int SORT_NEXT = 0;
        private static final int D_NEXT = 1;
        private static final int K_NEXT = 2;
        private static final int C_NEXT = 3;
        private static final int F_NEXT = 4;
        private static final int P_NEXT = 5;
        private static final int Q_NEXT = 6;
        private static final int CLOSE_NEXT = 7;
        private static final int RATE_NEXT = 8;
        /** No number or bits: a TOKEN that can't stand there. */
        private static final int UNFIT = -1;

        private final int[] letters;
        int size;
        private int awaited;
        private boolean isPTold;
        private boolean isQTold;

        Text() {
            letters = new int[TEXT_ROOM];
            size = 0;
        }

        void append(int letter) {
            if (size >= 0 && size < TEXT_ROOM) {
                letters[size] = letter;
                size++;
            }
        }

        /** Reads all to a Ban: the FAULT, or NO_FAULT. */
        int readTo(Ban ban) {
            ban.setFirst();
            awaited = SORT_NEXT;
            isPTold = false;
            isQTold = false;
            for (int at = 0; at < size; at++) {
                if (isTokenStart(at) && !takes(at, ban)) {
                    return at;
                }
            }
            return awaited == RATE_NEXT ? NO_FAULT : size;
        }

        private int letterAt(int at) {
            return at < 0 || at >= size || at >= TEXT_ROOM ? ' ' : letters[at];
        }

        private boolean isFigure(int at) {
            int letter = letterAt(at);
            return letter >= '0' && letter <= '9';
        }

        private boolean isTokenStart(int at) {
            return letterAt(at) != ' ' && !(isFigure(at) && isFigure(at - 1));
        }

        /** How many letters the TOKEN has that begins here. */
        private int tokenLength(int at) {
            int length = 1;
            while (length < TEXT_ROOM && isFigure(at) && isFigure(at + length)) {
                length++;
            }
            return length;
        }

        private boolean takes(int at, Ban ban) {
            switch (awaited) {
                case SORT_NEXT:
                    return takesSort(letterAt(at), ban);
                case D_NEXT:
                    ban.low = figureAt(at, 0, 3);
                    awaited = K_NEXT;
                    return ban.low != UNFIT;
                case K_NEXT:
                    ban.high = figureAt(at, Math.max(ban.low, 1), 5);
                    awaited = CLOSE_NEXT;
                    return ban.high != UNFIT;
                case C_NEXT:
                    ban.low = figureAt(at, 1, 3);
                    awaited = CLOSE_NEXT;
                    return ban.low != UNFIT;
                case F_NEXT:
                    ban.high = tokenLength(at);
                    ban.low = bitsAt(at, ban.high);
                    awaited = CLOSE_NEXT;
                    return ban.low != UNFIT;
                case P_NEXT:
                    ban.p = figureAt(at, 1, 3);
                    awaited = CLOSE_NEXT;
                    return ban.p != UNFIT;
                case Q_NEXT:
                    ban.q = figureAt(at, 1, 4);
                    awaited = CLOSE_NEXT;
                    return ban.q != UNFIT;
                case CLOSE_NEXT:
                    awaited = RATE_NEXT;
                    return letterAt(at) == ';';
                default:
                    return takesRate(letterAt(at));
            }
        }

        private boolean takesSort(int letter, Ban ban) {
            switch (letter) {
                case 'r':
                    ban.sort = RUNS;
                    awaited = D_NEXT;
                    return true;
                case 'c':
                    ban.sort = CHARGE;
                    awaited = C_NEXT;
                    return true;
                case 'b':
                    ban.sort = WORD;
                    awaited = F_NEXT;
                    return true;
                default:
                    return false;
            }
        }

        private boolean takesRate(int letter) {
            if (letter == 'p' && !isPTold) {
                isPTold = true;
                awaited = P_NEXT;
                return true;
            }
            if (letter == 'q' && !isQTold) {
                isQTold = true;
                awaited = Q_NEXT;
                return true;
            }
            return false;
        }

        /** A row of one figure (no number told has more) from least to most, or UNFIT. */
        private int figureAt(int at, int least, int most) {
            int value = letterAt(at) - '0';
            return tokenLength(at) != 1 || value < least || value > most ? UNFIT : value;
        }

        private int bitsAt(int at, int length) {
            if (length < 2 || length > 5) {
                return UNFIT;
            }
            int bits = 0;
            for (int i = 0; i < length; i++) {
                int bit = letterAt(at + i) - '0';
                if (bit < 0 || bit > 1) {
                    return UNFIT;
                }
                bits = bits << 1 | bit;
            }
            return bits;
        }
    }
}
