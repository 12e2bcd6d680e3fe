import java.util.LinkedHashMap;
import java.util.List;
import java.util.Map;
import java.util.function.Consumer;
import java.util.function.IntFunction;
import java.util.function.ToIntFunction;

/** Each call of the face, on objects in many conditions: its bounds, its refusals, and that these change nothing. */
public final class CallEdgesTest {
    private static final int BAD = -1, STATE = -2, FULL = -3, NONE = -9;
    /** Numbers that would pass where only some of their bits, or their sum with a small one, are looked at. */
    private static final int[] FAR = {Integer.MIN_VALUE, Integer.MIN_VALUE + 1, -256, 256, 65536, 1 << 30,
        Integer.MAX_VALUE - 1, Integer.MAX_VALUE};
    private static final Check C = new Check("CallEdgesTest");
    private static final Map<String, Consumer<BannedRows>> CONDITIONS = conditions();

    public static void main(String[] args) {
        type();
        clear();
        tells();
        sends();
        flips();
        undo();
        step();
        arc();
        state();
        weight();
        rows();
        word();
        wrong();
        sees();
        forget();
        which();
        ask();
        keep();
        back();
        count();
        firstThatIsSo();
        C.end();
    }

    private static Map<String, Consumer<BannedRows>> conditions() {
        Map<String, Consumer<BannedRows>> all = new LinkedHashMap<>();
        all.put("new", x -> { });
        all.put("in use", x -> {
            View.type(x, "c2;p1;q3;");
            x.tells();
            useUp(x, 5, 3);
            View.type(x, "r1 3;q");
        });
        all.put("full", x -> {
            View.type(x, "b101;p2;q3;");
            x.tells();
            useUp(x, 24, 6);
            View.type(x, "c1;p2;q1;" + " ".repeat(51));
        });
        all.put("none GOOD", x -> {
            x.sends(1);
            View.type(x, "c1;p3;q4;");
            x.tells();
            useUp(x, 0, 2);
            View.type(x, "b0");
        });
        all.put("Q 1", x -> {
            View.type(x, "r0 1;q1;p1;");
            x.tells();
            useUp(x, 0, 1);
        });
        return all;
    }

    private static void useUp(BannedRows x, int words, int seen) {
        for (int i = 0; i < words; i++) {
            x.sends(i % 3 & 1);
            if (i == 1) {
                x.keep(0);
            }
        }
        x.flips(2);
        x.flips(words);
        x.keep(1);
        for (int i = 0; i < seen; i++) {
            x.sees(1);
        }
    }

    /** In each condition: the call answers BAD for each number, and for those far off, and changes nothing. */
    private static void bad(String name, IntFunction<ToIntFunction<BannedRows>> call, int... numbers) {
        for (String condition : CONDITIONS.keySet()) {
            for (int n : numbers) {
                refused(condition, name + " of " + n, call.apply(n), BAD);
            }
            for (int n : FAR) {
                refused(condition, name + " of " + n, call.apply(n), BAD);
            }
        }
    }

    private static void refused(String condition, String what, ToIntFunction<BannedRows> call, int want) {
        Deep.unchanged(C, what + " (" + condition + ")", CONDITIONS.get(condition), call, want);
    }

    /** In each condition: the call changes nothing, whatever it answers. */
    private static void pure(String what, ToIntFunction<BannedRows> call) {
        for (String condition : CONDITIONS.keySet()) {
            int answer = call.applyAsInt(made(condition));
            C.holds(what + " is no refusal (" + condition + ")", answer >= 0 || answer == NONE);
            refused(condition, what, call, answer);
        }
    }

    private static BannedRows made(String condition) {
        return Deep.made(CONDITIONS.get(condition)).get();
    }

    private static void counts(String condition, int... want) {
        BannedRows x = made(condition);
        for (int what = 0; what < want.length; what++) {
            C.due("count(" + what + ") (" + condition + ")", x.count(what), want[what]);
        }
    }

    private static void type() {
        C.about("A letter (0 .. 255) comes to THE TEXT: how many it has. BAD; FULL: 60.");
        bad("type", n -> x -> x.type(n), -1, 256, 65536 + ';');
        BannedRows x = new BannedRows();
        C.due("type(0)", x.type(0), 1);
        C.due("type(255)", x.type(255), 2);
        BannedRows full = new BannedRows();
        View.type(full, " ".repeat(59));
        C.due("the 60th", full.type(255), 60);
        C.due("the 61st", full.type(0), FULL);
        refused("full", "type(0)", y -> y.type(0), FULL);
        refused("full", "type(255)", y -> y.type(255), FULL);
        refused("full", "type(' ')", y -> y.type(' '), FULL);
    }

    private static void clear() {
        C.about("THE TEXT is empty: how many letters it had.");
        refused("new", "clear() of none", BannedRows::clear, 0);
        int[] had = {0, 6, 60, 2, 0};
        int i = 0;
        for (String condition : CONDITIONS.keySet()) {
            BannedRows x = made(condition);
            C.due("clear() (" + condition + ")", x.clear(), had[i++]);
            C.due("letters then", x.count(11), 0);
            C.due("tells() then", x.tells(), -10);
            C.due("clear() again", x.clear(), 0);
            C.due("type() then", x.type('c'), 1);
        }
        Consumer<BannedRows> used = x -> useUp(x, 5, 3);
        Deep.same(C, "type() and clear() change nothing else", Deep.of(Deep.made(used.andThen(x -> {
            View.type(x, "c1;");
            x.clear();
        }))), Deep.of(Deep.made(used)));
    }

    private static void tells() {
        C.about("THE TEXT tells all anew, and is empty then: how many STATES. -10 less FAULT: nothing changes");
        refused("new", "tells() of none", BannedRows::tells, -10);
        refused("in use", "tells() too early", BannedRows::tells, -16);
        refused("none GOOD", "tells() too early: F has one figure", BannedRows::tells, -11);
        BannedRows x = made("full");
        C.due("tells() of 60 letters", x.tells(), 3);
        int[] want = {3, 1, 2, 1, 0, NONE, NONE, NONE, 0, 0, 0, 0, 6};
        for (int what = 0; what <= 12; what++) {
            C.due("count(" + what + ") then", x.count(what), want[what]);
        }
        C.due("the lowest FAULT", early().tells(), -70);
        C.due("two STATES, the fewest", View.told("r0 1;").count(0), 2);
        C.due("seven STATES, the most", View.told("c3;").count(0), 7);
    }

    private static BannedRows early() {
        BannedRows x = new BannedRows();
        View.type(x, " ".repeat(58) + "c1");
        return x;
    }

    private static void sends() {
        C.about("SENT, a TAG (0 .. 2 to the P less 1): the WORD. BAD; STATE: no STATE is GOOD; FULL: 24.");
        bad("sends", n -> x -> x.sends(n), -1, 8);
        int[] tags = {2, 4, 8};
        for (int p = 1; p <= 3; p++) {
            String text = "b00000;q4;p" + p + ";";
            int beyond = tags[p - 1];
            Consumer<BannedRows> told = x -> {
                View.type(x, text);
                x.tells();
            };
            C.due(text + " the last TAG", Deep.made(told).get().sends(beyond - 1), beyond - 1);
            C.due(text + " TAG 0", Deep.made(told).get().sends(0), 0);
            Deep.unchanged(C, text + " sends(" + beyond + ")", told, x -> x.sends(beyond), BAD);
        }
        refused("none GOOD", "sends(0)", x -> x.sends(0), STATE);
        refused("none GOOD", "sends(7)", x -> x.sends(7), STATE);
        refused("Q 1", "sends(1)", x -> x.sends(1), STATE);
        refused("Q 1", "sends(2)", x -> x.sends(2), BAD);
        refused("full", "sends(0)", x -> x.sends(0), FULL);
        refused("full", "sends(3)", x -> x.sends(3), FULL);
        refused("full", "sends(4)", x -> x.sends(4), BAD);
    }

    private static void flips() {
        C.about("TURNED, a bit (0 on, WORD by WORD, the first bit of each first): what it is then. BAD.");
        bad("flips", n -> x -> x.flips(n), -1, 72);
        refused("new", "flips(0)", x -> x.flips(0), BAD);
        refused("none GOOD", "flips(0)", x -> x.flips(0), BAD);
        refused("in use", "flips(15)", x -> x.flips(15), BAD);
        BannedRows full = made("full");
        int last = full.word(23, 0);
        C.due("flips(71)", full.flips(71), 1 - (last & 1));
        C.due("the last bit", full.word(23, 0), last ^ 1);
        for (int q = 2; q <= 4; q++) {
            for (int bit = 0; bit < 3 * q; bit++) {
                BannedRows x = View.told("b00000;p1;q" + q + ";");
                x.sends(0);
                x.sends(0);
                x.sends(1);
                int was = x.word(bit / q, 0);
                int place = q - 1 - bit % q;
                C.due("Q " + q + ": flips(" + bit + ")", x.flips(bit), 1 - (was >> place & 1));
                C.due("Q " + q + ": that WORD", x.word(bit / q, 0), was ^ 1 << place);
                C.due("Q " + q + ": one bit", x.count(9), 1);
                C.due("Q " + q + ": flips(" + bit + ") again", x.flips(bit), was >> place & 1);
                C.due("Q " + q + ": no bit", x.count(9), 0);
            }
        }
    }

    private static void undo() {
        C.about("UNDONE: how many more may be. STATE: none.");
        refused("new", "undo()", BannedRows::undo, STATE);
        int[] more = {-2, 5, 5, 1, 0};
        int i = 0;
        for (String condition : CONDITIONS.keySet()) {
            BannedRows x = made(condition);
            C.due("undo() (" + condition + ")", x.undo(), more[i]);
            C.due("count(12)", x.count(12), Math.max(more[i++], 0));
        }
    }

    private static void step() {
        C.about("To which STATE a bit leads from a STATE; NONE. BAD.");
        bad("step(n, 0)", n -> x -> x.step(n, 0), -1, 7);
        bad("step(n, 1)", n -> x -> x.step(n, 1), -1, 7);
        bad("step(0, n)", n -> x -> x.step(0, n), -1, 2);
        pure("step(0, 0)", x -> x.step(0, 0));
        pure("step(1, 1)", x -> x.step(1, 1));
        pure("step of the last", x -> x.step(x.count(0) - 1, 0));
        for (String condition : CONDITIONS.keySet()) {
            refused(condition, "step of one too many", x -> x.step(x.count(0), 0), BAD);
        }
    }

    private static void arc() {
        C.about("ARC of a STATE over a WORD: where it leads (what = 0; NONE: none), its TAG (1; NONE). BAD.");
        bad("arc(n, 0, 0)", n -> x -> x.arc(n, 0, 0), -1, 7);
        bad("arc(0, n, 0)", n -> x -> x.arc(0, n, 0), -1, 16);
        bad("arc(0, n, 1)", n -> x -> x.arc(0, n, 1), -1, 16);
        bad("arc(0, 0, n)", n -> x -> x.arc(0, 0, n), -1, 2);
        pure("arc(0, 0, 0)", x -> x.arc(0, 0, 0));
        pure("arc(0, 0, 1)", x -> x.arc(0, 0, 1));
        pure("arc of the last", x -> x.arc(x.count(0) - 1, (1 << x.count(3)) - 1, 0));
        pure("arc of the last", x -> x.arc(x.count(0) - 1, (1 << x.count(3)) - 1, 1));
        for (String condition : CONDITIONS.keySet()) {
            refused(condition, "arc of one STATE too many", x -> x.arc(x.count(0), 0, 0), BAD);
            refused(condition, "arc of one WORD too many", x -> x.arc(0, 1 << x.count(3), 0), BAD);
        }
    }

    private static void state() {
        C.about("Of a STATE: 0 how many ARCS, 1 whether it is GOOD (1, 0). BAD.");
        bad("state(n, 0)", n -> x -> x.state(n, 0), -1, 7);
        bad("state(n, 1)", n -> x -> x.state(n, 1), -1, 7);
        bad("state(0, n)", n -> x -> x.state(0, n), -1, 2);
        pure("state(0, 0)", x -> x.state(0, 0));
        pure("state(0, 1)", x -> x.state(0, 1));
        pure("state of the last", x -> x.state(x.count(0) - 1, 1));
        for (String condition : CONDITIONS.keySet()) {
            refused(condition, "state of one too many", x -> x.state(x.count(0), 1), BAD);
        }
        BannedRows x = View.told("r3 3;q4;p1;");
        C.due("the fewest ARCS", x.state(0, 0), 1);
        C.due("the most ARCS", View.told("b00000;q4;").state(0, 0), 16);
        C.due("too few to be GOOD", x.state(0, 1), 0);
    }

    private static void weight() {
        C.about("WEIGHT of a STATE by L (what = 0), SHARE (1). BAD.");
        bad("weight(n, 1, 0)", n -> x -> x.weight(n, 1, 0), -1, 7);
        bad("weight(0, n, 0)", n -> x -> x.weight(0, n, 0), -1, 0, 10);
        bad("weight(0, n, 1)", n -> x -> x.weight(0, n, 1), -1, 0, 10);
        bad("weight(0, 1, n)", n -> x -> x.weight(0, 1, n), -1, 2);
        pure("weight(0, 1, 0)", x -> x.weight(0, 1, 0));
        pure("weight(0, 9, 0)", x -> x.weight(0, 9, 0));
        pure("weight(1, 9, 1)", x -> x.weight(1, 9, 1));
        for (String condition : CONDITIONS.keySet()) {
            refused(condition, "weight of one too many", x -> x.weight(x.count(0), 9, 1), BAD);
        }
    }

    private static void rows() {
        C.about("ROWS of n. BAD.");
        bad("rows", n -> x -> x.rows(n), -1, 21);
        pure("rows(0)", x -> x.rows(0));
        pure("rows(20)", x -> x.rows(20));
    }

    private static void word() {
        C.about("Of WORD i of THE LINE: 0 as it is, 1 the TAG that was SENT, 2 READ by STATES, 3 by the WINDOW. BAD.");
        bad("word(n, 0)", n -> x -> x.word(n, 0), -1, 24);
        bad("word(n, 3)", n -> x -> x.word(n, 3), -1, 24);
        bad("word(0, n)", n -> x -> x.word(0, n), -1, 4);
        for (int what = 0; what <= 3; what++) {
            int at = what;
            for (String condition : CONDITIONS.keySet()) {
                refused(condition, "word of one too many", x -> x.word(x.count(8), at), BAD);
            }
            for (String condition : List.of("in use", "full")) {
                int first = made(condition).word(0, at);
                refused(condition, "word(0, " + at + ")", x -> x.word(0, at), first);
                int last = made(condition).word(made(condition).count(8) - 1, at);
                C.holds("the last is there", last != BAD);
                refused(condition, "the last, " + at, x -> x.word(x.count(8) - 1, at), last);
            }
        }
    }

    private static void wrong() {
        C.about("How many WORDS of THE LINE are READ otherwise than SENT (NONE is, too). BAD.");
        bad("wrong", n -> x -> x.wrong(n), -1, 2);
        pure("wrong(0)", x -> x.wrong(0));
        pure("wrong(1)", x -> x.wrong(1));
        for (String condition : List.of("new", "none GOOD", "Q 1")) {
            C.due("no WORDS (" + condition + ")", made(condition).wrong(0), 0);
            C.due("no WORDS (" + condition + ")", made(condition).wrong(1), 0);
        }
        BannedRows x = new BannedRows();
        for (int i = 0; i < 24; i++) {
            x.sends(1);
        }
        C.due("none of 24", x.wrong(0), 0);
        C.due("24 of 24: there is no WINDOW", x.wrong(1), 24);
        x.flips(46);
        C.due("NONE is, too", x.wrong(0), 1);
        C.due("READ", x.word(23, 2), NONE);
        BannedRows y = View.told("c1;p1;q3;");
        y.sends(0);
        C.due("not so many WORDS is, too", y.wrong(1), 1);
    }

    private static void sees() {
        C.about("SEEN, the next WORD: how many there are. BAD; FULL: 6.");
        bad("sees", n -> x -> x.sees(n), -1, 16);
        for (int q = 1; q <= 4; q++) {
            String text = "c1;q" + q + ";";
            int beyond = 1 << q;
            Consumer<BannedRows> told = x -> {
                View.type(x, text);
                x.tells();
            };
            C.due(text + " the last WORD", Deep.made(told).get().sees(beyond - 1), 1);
            Deep.unchanged(C, text + " sees(" + beyond + ")", told, x -> x.sees(beyond), BAD);
        }
        refused("full", "sees(0)", x -> x.sees(0), FULL);
        refused("full", "sees(7)", x -> x.sees(7), FULL);
        refused("full", "sees(8)", x -> x.sees(8), BAD);
        C.due("one more than three", made("in use").sees(0), 4);
        C.due("none GOOD", made("none GOOD").sees(15), 3);
    }

    private static void forget() {
        C.about("Nothing is SEEN: how many WORDS were.");
        refused("new", "forget() of none", BannedRows::forget, 0);
        int[] were = {0, 3, 6, 2, 1};
        int i = 0;
        for (String condition : CONDITIONS.keySet()) {
            BannedRows x = made(condition);
            C.due("forget() (" + condition + ")", x.forget(), were[i++]);
            C.due("count(10)", x.count(10), 0);
            C.due("WHICH", x.which(0), x.count(4));
            C.due("THERE", x.which(1), x.count(4));
            C.due("forget() again", x.forget(), 0);
            C.due("sees() then", x.sees(1), 1);
        }
        Consumer<BannedRows> before = x -> {
            View.type(x, "c1");
            x.sends(1);
            x.keep(0);
        };
        Deep.same(C, "sees() and forget() change nothing else", Deep.of(Deep.made(before.andThen(x -> {
            x.sees(1);
            x.sees(2);
            x.forget();
        }))), Deep.of(Deep.made(before)));
    }

    private static void which() {
        C.about("WHICH (what = 0), THERE (1), as bits. BAD.");
        bad("which", n -> x -> x.which(n), -1, 2);
        pure("which(0)", x -> x.which(0));
        pure("which(1)", x -> x.which(1));
        C.due("the highest bit", View.told("c3;q2;p1;").which(0), 127);
    }

    private static void ask() {
        C.about("ASK; NONE.");
        pure("ask()", BannedRows::ask);
        C.due("none GOOD", made("none GOOD").ask(), NONE);
    }

    private static void keep() {
        C.about("An IMAGE is kept: WORDS of THE LINE. BAD.");
        bad("keep", n -> x -> x.keep(n), -1, 2);
        int[] words = {0, 5, 24, 0, 0};
        int i = 0;
        for (String condition : CONDITIONS.keySet()) {
            C.due("keep(0) (" + condition + ")", made(condition).keep(0), words[i]);
            C.due("keep(1) (" + condition + ")", made(condition).keep(1), words[i]);
            Deep.same(C, "keep() changes IMAGES alone (" + condition + ")",
                    Deep.ofHeld(Deep.made(CONDITIONS.get(condition).andThen(x -> x.keep(0)))),
                    Deep.ofHeld(Deep.made(CONDITIONS.get(condition))));
            BannedRows x = made(condition);
            x.keep(0);
            C.due("back(0) of it (" + condition + ")", x.back(0), words[i++]);
        }
    }

    private static void back() {
        C.about("All of that becomes as an IMAGE has it: WORDS of THE LINE. BAD; STATE: none was kept.");
        bad("back", n -> x -> x.back(n), -1, 2);
        refused("new", "back(0)", x -> x.back(0), STATE);
        refused("new", "back(1)", x -> x.back(1), STATE);
        refused("none GOOD", "back(0)", x -> x.back(0), STATE);
        C.due("two WORDS", made("in use").back(0), 2);
        C.due("all 24", made("full").back(1), 24);
        C.due("none", made("none GOOD").back(1), 0);
    }

    private static void count() {
        C.about("0 STATES, .. 12 how many may be UNDONE. BAD.");
        bad("count", n -> x -> x.count(n), -1, 13);
        for (int what = 0; what <= 12; what++) {
            int at = what;
            pure("count(" + what + ")", x -> x.count(at));
        }
        counts("new", 4, 0, 1, 2, 7, 0, 0, NONE, 0, 0, 0, 0, 0);
        counts("in use", 5, 2, 1, 3, 31, 0, 1, 2, 5, 2, 3, 6, 6);
        counts("full", 3, 0, 2, 3, 7, 0, 0, 0, 24, 2, 6, 60, 6);
        counts("none GOOD", 3, 1, 3, 4, 0, NONE, NONE, NONE, 0, 0, 2, 2, 2);
        counts("Q 1", 2, 0, 1, 1, 0, NONE, NONE, NONE, 0, 0, 1, 0, 1);
    }

    private static void firstThatIsSo() {
        C.about("Refused, and nothing changes, the first of these that is so: BAD, STATE, FULL");
        refused("full", "type(256): BAD ahead of FULL", x -> x.type(256), BAD);
        refused("full", "sends(-1): BAD ahead of FULL", x -> x.sends(-1), BAD);
        refused("full", "sees(-1): BAD ahead of FULL", x -> x.sees(-1), BAD);
        refused("none GOOD", "sends(8): BAD ahead of STATE", x -> x.sends(8), BAD);
        refused("new", "back(2): BAD ahead of STATE", x -> x.back(2), BAD);
    }
}
