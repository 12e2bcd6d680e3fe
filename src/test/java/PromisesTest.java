/** Each promise of the document: ordinary inputs, the edges it names, wrong inputs. */
public final class PromisesTest {
    private static final int BAD = -1, STATE = -2, FULL = -3, NONE = -9;
    private static final int LOW = Integer.MIN_VALUE, HIGH = Integer.MAX_VALUE;
    private static final Check C = new Check("PromisesTest");

    public static void main(String[] args) {
        promise1();
        promise2();
        promise3();
        promise4Sound();
        promise4Faults();
        promise4Changes();
        promise5();
        promise6();
        promise7();
        promise7Known();
        promise8();
        promise9();
        promise10();
        promise11();
        promise12();
        promise13();
        promise13Window();
        promise14();
        promise15();
        promise16();
        promise17();
        promise18();
        promise19And20();
        promise20Past();
        promise21();
        C.end();
    }

    private static void counts(String what, BannedRows x, int... want) {
        for (int i = 0; i < want.length; i++) {
            C.due(what + ": count(" + i + ")", x.count(i), want[i]);
        }
    }

    private static void promise1() {
        BannedRows x = new BannedRows();
        counts("new", x, 4, 0, 1, 2, 7, 0, 0, NONE, 0, 0, 0, 0, 0);
        C.due("new: step(0, 1)", x.step(0, 1), NONE);
        C.due("new: step(2, 1)", x.step(2, 1), 0);
        C.due("new: undo()", x.undo(), STATE);
        C.due("new: back(0)", x.back(0), STATE);
        C.due("new: back(1)", x.back(1), STATE);
        BannedRows other = new BannedRows();
        other.sends(1);
        C.due("objects share nothing", x.count(8), 0);
    }

    private static void promise2() {
        BannedRows x = new BannedRows();
        C.due("type(-1)", x.type(-1), BAD);
        C.due("type(256)", x.type(256), BAD);
        C.due("type(LOW)", x.type(LOW), BAD);
        C.due("type(HIGH)", x.type(HIGH), BAD);
        C.due("type(0)", x.type(0), 1);
        C.due("type(255)", x.type(255), 2);
        for (int i = 3; i <= 60; i++) {
            C.due("type to 60", x.type(' '), i);
        }
        C.due("type at 60", x.type(' '), FULL);
        C.due("type(256) at 60", x.type(256), BAD);
        C.due("count(11)", x.count(11), 60);
    }

    private static void promise3() {
        BannedRows x = new BannedRows();
        C.due("clear() of none", x.clear(), 0);
        View.type(x, "c1;");
        C.due("clear()", x.clear(), 3);
        C.due("clear() again", x.clear(), 0);
        C.due("count(11)", x.count(11), 0);
        C.due("tells() behind clear()", x.tells(), -10);
        for (int i = 0; i < 60; i++) {
            x.type('c');
        }
        C.due("clear() of 60", x.clear(), 60);
        C.due("type() behind it", x.type('c'), 1);
    }

    private static void sound(String text, int... want) {
        BannedRows x = new BannedRows();
        View.type(x, text);
        C.due("\"" + text + "\" tells", x.tells(), want[0]);
        counts("\"" + text + "\"", x, want);
        C.due("\"" + text + "\" is empty then", x.count(11), 0);
        C.due("\"" + text + "\" can be undone", x.count(12), 1);
    }

    private static void promise4Sound() {
        sound("r0 1;", 2, 0, 1, 2);
        sound("r3 3;", 4, 0, 1, 2);
        sound("r3 5;p3;q4;", 6, 0, 3, 4);
        sound("c1;", 3, 1, 1, 2);
        sound("c3;q1;p2;", 7, 3, 2, 1);
        sound("b00;", 2, 0, 1, 2);
        sound("b01011;p1;q3;", 5, 0, 1, 3);
        sound("   b   00   ;  ", 2, 0, 1, 2);
        sound(" r 1   3 ; q 4 ; p 3 ; ", 4, 0, 3, 4);
        sound("c2;q3;", 5, 2, 1, 3);
        sound("c2;p3;", 5, 2, 3, 2);
    }

    private static void fault(String text, int place) {
        BannedRows x = new BannedRows();
        x.sends(1);
        x.sends(0);
        x.sees(1);
        x.keep(1);
        View.type(x, text);
        C.due("\"" + text + "\" tells", x.tells(), -10 - place);
        C.due("\"" + text + "\": images stay", x.back(1), 2);
    }

    private static void promise4Faults() {
        String[] early = {"", " ", "r", "r ", "r1", "r1 ", "r1 3", "c", "c1", "c1 ", "b", "b01", "b01 ",
            "c1;p", "c1;p1", "c1;q", "c1;q1 ", "c1;q1;p", "c1;q1;p2"};
        for (String text : early) {
            fault(text, text.length());
        }
        fault("p1;", 0);
        fault(";", 0);
        fault("5", 0);
        fault("  R1 3;", 2);
        fault("r;", 1);
        fault("rr", 1);
        fault("r4 5;", 1);
        fault("r 01 3;", 2);
        fault("r13;", 1);
        fault("r99999999999999999999 1;", 1);
        fault("r4294967297 3;", 1);
        fault("r1 ;", 3);
        fault("r1 4294967299;", 3);
        fault("r2 1;", 3);
        fault("r0 0;", 3);
        fault("r0 00;", 3);
        fault("r1 6;", 3);
        fault("r1 03;", 3);
        fault("r1 3 4;", 5);
        fault("r1 3p1;", 4);
        fault("c0;", 1);
        fault("c4;", 1);
        fault("c01;", 1);
        fault("c1 1;", 3);
        fault("c11;", 1);
        fault("b1;", 1);
        fault("b0 1;", 1);
        fault("b012;", 1);
        fault("b010101;", 1);
        fault("b9;", 1);
        fault("b01 1;", 4);
        fault("b;", 1);
        fault("c1;;", 3);
        fault("c1;c1;", 3);
        fault("c1;r", 3);
        fault("c1;b", 3);
        fault("c1;1", 3);
        fault("c1;p0;", 4);
        fault("c1;p4;", 4);
        fault("c1;p01;", 4);
        fault("c1;q0;", 4);
        fault("c1;q5;", 4);
        fault("c1;qq", 4);
        fault("c1;p1;p1;", 6);
        fault("c1;q1;p1;q1;", 9);
        fault("c1;q1;p1;;", 9);
        fault("c1;\t", 3);
        fault("c1\n;", 2);
        fault("\u0000c1;", 0);
        fault("c1;\u00ff", 3);
        fault("b01x", 3);
        fault("b1x", 1);
    }

    private static void promise4Changes() {
        BannedRows x = new BannedRows();
        x.sends(1);
        x.sees(1);
        x.keep(0);
        x.keep(1);
        View.type(x, "r1 3;p2;q4;");
        C.due("tells()", x.tells(), 4);
        C.due("the line is empty", x.count(8), 0);
        C.due("nothing is seen", x.count(10), 0);
        C.due("image 0 is gone", x.back(0), STATE);
        C.due("image 1 is gone", x.back(1), STATE);
        View.type(x, "c1;");
        x.tells();
        C.due("P is as at first", x.count(2), 1);
        C.due("Q is as at first", x.count(3), 2);
        String full = "c1;" + " ".repeat(57);
        View.type(x, full);
        C.due("60 letters tell", x.tells(), 3);
    }

    private static void promise5() {
        BannedRows x = new BannedRows();
        C.due("sends(-1)", x.sends(-1), BAD);
        C.due("sends(2)", x.sends(2), BAD);
        C.due("sends(LOW)", x.sends(LOW), BAD);
        C.due("sends(0)", x.sends(0), 0);
        C.due("SEND is 2", x.count(6), 2);
        C.due("sends(1)", x.sends(1), 2);
        C.due("SEND is 1", x.count(6), 1);
        for (int i = 2; i < 24; i++) {
            x.sends(i & 1);
            C.due("WORDS", x.count(8), i + 1);
        }
        C.due("sends() at 24", x.sends(0), FULL);
        C.due("sends(2) at 24", x.sends(2), BAD);
        BannedRows y = View.told("c1;p3;q4;");
        C.due("sends(7), none GOOD", y.sends(7), STATE);
        C.due("sends(8), none GOOD", y.sends(8), BAD);
        BannedRows z = View.told("b101;q3;p2;");
        C.due("b101 sends(3)", z.sends(3), 3);
        C.due("b101 sends(4)", z.sends(4), BAD);
    }

    private static void promise6() {
        BannedRows x = new BannedRows();
        C.due("flips(0) of none", x.flips(0), BAD);
        x.sends(0);
        x.sends(1);
        C.due("flips(-1)", x.flips(-1), BAD);
        C.due("flips(4)", x.flips(4), BAD);
        C.due("flips(LOW)", x.flips(LOW), BAD);
        C.due("flips(HIGH)", x.flips(HIGH), BAD);
        C.due("flips(0)", x.flips(0), 1);
        C.due("its first bit is the highest", x.word(0, 0), 2);
        C.due("flips(3)", x.flips(3), 1);
        C.due("WORD 1", x.word(1, 0), 3);
        C.due("flips(2)", x.flips(2), 0);
        C.due("WORD 1 then", x.word(1, 0), 1);
        C.due("SEND stays", x.count(6), 1);
        C.due("three bits", x.count(9), 3);
        C.due("flips(2) again", x.flips(2), 1);
        C.due("two bits", x.count(9), 2);
        C.due("what was SENT stays", x.word(0, 1), 0);
        BannedRows y = View.told("b101;q3;p2;");
        y.sends(0);
        y.sends(0);
        y.flips(5);
        C.due("the last bit of Q 3", y.word(1, 0), 1);
        C.due("flips(6)", y.flips(6), BAD);
    }

    private static void promise7() {
        BannedRows x = new BannedRows();
        C.due("undo() of none", x.undo(), STATE);
        x.sends(0);
        String before = View.of(x);
        x.flips(1);
        C.due("undo() of flips()", x.undo(), 1);
        C.holds("as ahead of flips()", View.of(x).equals(before));
        x.sends(1);
        C.due("undo() of sends()", x.undo(), 1);
        C.holds("as ahead of sends()", View.of(x).equals(before));
        View.type(x, "c2;p3;q4;");
        x.tells();
        C.due("undo() of tells()", x.undo(), 1);
        C.holds("as ahead of tells(), but THE TEXT", View.of(x).equals(before));
        C.due("undo() of the first", x.undo(), 0);
        C.due("the line is empty", x.count(8), 0);
        C.due("SEND is BEGIN", x.count(6), 0);
        C.due("undo() no more", x.undo(), STATE);
    }

    private static void promise7Known() {
        BannedRows x = new BannedRows();
        for (int i = 0; i < 9; i++) {
            x.sends(1);
            C.due("how many may be", x.count(12), Math.min(i + 1, 6));
        }
        x.sends(5);
        x.flips(99);
        x.tells();
        C.due("refused ones are not known", x.count(12), 6);
        for (int i = 5; i >= 0; i--) {
            C.due("undo()", x.undo(), i);
            C.due("WORDS", x.count(8), i + 3);
        }
        C.due("older ones are lost", x.undo(), STATE);
        C.due("WORDS stay", x.count(8), 3);
        View.type(x, "r1 3;");
        x.sends(0);
        x.undo();
        C.due("undo() leaves THE TEXT", x.count(11), 5);
        View.type(x, "q4;");
        x.tells();
        x.keep(0);
        x.sees(13);
        x.undo();
        C.due("what was SEEN stays", x.count(10), 1);
        C.due("13 is no WORD of 2 bits", x.which(0), 0);
        C.due("images stay", x.back(0), 0);
        C.due("Q of the image", x.count(3), 4);
    }

    private static void promise8() {
        BannedRows x = View.told("r1 3;");
        steps("r1 3", x, 1, NONE, 2, 0, 3, 0, NONE, 0);
        BannedRows y = View.told("r0 1;");
        steps("r0 1", y, 1, 0, NONE, 0);
        steps("r3 3", View.told("r3 3;"), 1, NONE, 2, NONE, 3, NONE, NONE, 0);
        steps("c1", View.told("c1;"), NONE, 1, 0, 2, 1, NONE);
        steps("b00", View.told("b00;"), 1, 0, NONE, 0);
        steps("b101", View.told("b101;"), 0, 1, 2, 1, 0, NONE);
        steps("b0010", View.told("b0010;"), 1, 0, 2, 0, 2, 3, NONE, 0);
        steps("b01011", View.told("b01011;"), 1, 0, 1, 2, 3, 0, 1, 4, 3, NONE);
        int[] off = {-1, 4, LOW, HIGH};
        for (int n : off) {
            C.due("step(" + n + ", 0)", x.step(n, 0), BAD);
            C.due("step(0, " + n + ")", x.step(0, n), BAD);
        }
        C.due("step(0, 2)", x.step(0, 2), BAD);
        C.due("step(2, 0) of two STATES", y.step(2, 0), BAD);
    }

    /** Of each STATE where a bit 0 and where a bit 1 leads. */
    private static void steps(String ban, BannedRows x, int... want) {
        C.due(ban + ": STATES", x.count(0), want.length / 2);
        for (int i = 0; i < want.length; i++) {
            C.due(ban + ": step(" + i / 2 + ", " + i % 2 + ")", x.step(i / 2, i % 2), want[i]);
        }
    }

    private static void promise9() {
        BannedRows x = new BannedRows();
        int[] ends = {2, 0, NONE, NONE, 3, 0, 1, NONE, NONE, 0, 1, NONE, NONE, NONE, 1, NONE};
        int[] tags = {0, 1, NONE, NONE, NONE, 0, 1, NONE, NONE, 0, 1, NONE, NONE, NONE, NONE, NONE};
        for (int i = 0; i < 16; i++) {
            C.due("arc(" + i / 4 + ", " + i % 4 + ", 0)", x.arc(i / 4, i % 4, 0), ends[i]);
            C.due("arc(" + i / 4 + ", " + i % 4 + ", 1)", x.arc(i / 4, i % 4, 1), tags[i]);
        }
        int[] off = {-1, 4, LOW, HIGH};
        for (int n : off) {
            C.due("arc(n, 0, 0)", x.arc(n, 0, 0), BAD);
            C.due("arc(0, n, 0)", x.arc(0, n, 0), BAD);
            C.due("arc(0, 0, n)", x.arc(0, 0, n), BAD);
        }
        C.due("arc(0, 0, 2)", x.arc(0, 0, 2), BAD);
        BannedRows y = View.told("b11111;q2;p1;");
        C.due("TAG 1 is the last", y.arc(0, 1, 1), 1);
        C.due("an ARC beyond the TAGS has none", y.arc(0, 2, 1), NONE);
        C.due("but leads", y.arc(0, 2, 0), 0);
        BannedRows z = View.told("c3;q4;p1;");
        C.due("WORD 15", z.arc(0, 15, 0), 4);
        C.due("WORD 16", z.arc(0, 16, 0), BAD);
    }

    private static void promise10() {
        BannedRows x = new BannedRows();
        int[] arcs = {2, 3, 2, 1};
        for (int s = 0; s < 4; s++) {
            C.due("state(" + s + ", 0)", x.state(s, 0), arcs[s]);
            C.due("state(" + s + ", 1)", x.state(s, 1), s < 3 ? 1 : 0);
        }
        int[] off = {-1, 4, LOW, HIGH};
        for (int n : off) {
            C.due("state(n, 0)", x.state(n, 0), BAD);
            C.due("state(n, 1)", x.state(n, 1), BAD);
            C.due("state(0, n)", x.state(0, n), BAD);
        }
        C.due("state(0, 2)", x.state(0, 2), BAD);
        BannedRows y = View.told("c2;q4;p3;");
        C.due("ARCS to STATES that are not GOOD", y.state(2, 0), 12);
        C.due("2 is not GOOD", y.state(2, 1), 0);
        C.due("3 is GOOD", y.state(3, 1), 1);
        BannedRows z = View.told("b111;q1;p1;");
        C.due("the whole chain falls", z.state(0, 1) + z.state(1, 1) + z.state(2, 1), 0);
    }

    private static void promise11() {
        BannedRows x = new BannedRows();
        C.due("weight(0, 1, 0)", x.weight(0, 1, 0), 1);
        C.due("weight(3, 1, 0)", x.weight(3, 1, 0), 0);
        C.due("weight(0, 1, 1)", x.weight(0, 1, 1), 333);
        C.due("weight(3, 1, 1)", x.weight(3, 1, 1), 0);
        C.due("weight(0, 9, 0)", x.weight(0, 9, 0), 9);
        C.due("weight(3, 9, 0)", x.weight(3, 9, 0), 4);
        C.due("weight(0, 9, 1)", x.weight(0, 9, 1), 290);
        C.due("weight(3, 9, 1)", x.weight(3, 9, 1), 129);
        int[] off = {-1, 4, LOW, HIGH};
        for (int n : off) {
            C.due("weight(n, 1, 0)", x.weight(n, 1, 0), BAD);
            C.due("weight(0, 1, n)", x.weight(0, 1, n), BAD);
        }
        int[] offL = {0, 10, -1, LOW, HIGH};
        for (int n : offL) {
            C.due("weight(0, n, 0)", x.weight(0, n, 0), BAD);
        }
        C.due("weight(0, 1, 2)", x.weight(0, 1, 2), BAD);
        BannedRows y = View.told("c1;p3;q4;");
        C.due("all become 0", y.weight(0, 9, 0), 0);
        C.due("a SHARE of none", y.weight(0, 9, 1), 0);
        BannedRows z = View.told("c2;q4;p3;");
        C.due("weight(2, 3, 0)", z.weight(2, 3, 0), 3);
        C.due("weight(0, 3, 1)", z.weight(0, 3, 1), 90);
    }

    private static void promise12() {
        BannedRows x = new BannedRows();
        int[] want = {1, 1, 2, 3, 4, 6};
        for (int n = 0; n < want.length; n++) {
            C.due("rows(" + n + ")", x.rows(n), want[n]);
        }
        C.due("rows(20)", x.rows(20), 1873);
        C.due("rows(21)", x.rows(21), BAD);
        C.due("rows(-1)", x.rows(-1), BAD);
        C.due("rows(LOW)", x.rows(LOW), BAD);
        C.due("rows(HIGH)", x.rows(HIGH), BAD);
        C.due("c1: rows(3) from the START", View.told("c1;").rows(3), 4);
        C.due("b11: rows(6)", View.told("b11;").rows(6), 21);
        C.due("b11111: rows(20)", View.told("b11111;").rows(20), 786568);
        C.due("r0 1: rows(4)", View.told("r0 1;").rows(4), 8);
    }

    private static void promise13() {
        BannedRows x = new BannedRows();
        C.due("word(0, 0) of none", x.word(0, 0), BAD);
        int[] tags = {0, 1, 1, 0};
        int[] words = {0, 2, 2, 1};
        for (int i = 0; i < 4; i++) {
            x.sends(tags[i]);
        }
        for (int i = 0; i < 4; i++) {
            C.due("word(i, 0)", x.word(i, 0), words[i]);
            C.due("word(i, 1)", x.word(i, 1), tags[i]);
            C.due("word(i, 2)", x.word(i, 2), tags[i]);
            C.due("word(i, 3): there is no WINDOW", x.word(i, 3), NONE);
        }
        int[] off = {-1, 4, LOW, HIGH};
        for (int n : off) {
            C.due("word(n, 0)", x.word(n, 0), BAD);
            C.due("word(0, n)", x.word(0, n), BAD);
        }
        x.flips(1);
        C.due("WORD 01 from STATE 0", x.word(0, 2), 1);
        C.due("leads to 0, where 10 is not", x.word(1, 2), NONE);
        C.due("the STATE stays", x.word(2, 2), NONE);
        C.due("and 01 is read from it", x.word(3, 2), 1);
        C.due("what was SENT stays", x.word(0, 1), 0);
    }

    private static void promise13Window() {
        BannedRows x = View.told("b101;q3;p2;");
        C.due("WINDOW 0", x.count(7), 0);
        x.sends(3);
        x.sends(0);
        C.due("word(0, 3)", x.word(0, 3), 3);
        C.due("word(1, 3)", x.word(1, 3), 0);
        x.flips(0);
        C.due("111 is no ARC with a TAG", x.word(0, 3), NONE);
        C.due("the other is as it was", x.word(1, 3), 0);
        BannedRows y = View.told("c1;p1;q3;");
        int m = 1;
        int[] tags = {0, 1, 1, 0, 1, 0, 0, 1};
        for (int tag : tags) {
            y.sends(tag);
        }
        for (int i = 0; i < 8; i++) {
            C.due("word(" + i + ", 3)", y.word(i, 3), i + m < 8 ? tags[i] : NONE);
        }
        C.due("wrong(1)", y.wrong(1), m);
    }

    private static void promise14() {
        BannedRows x = new BannedRows();
        C.due("wrong(0) of none", x.wrong(0), 0);
        C.due("wrong(1) of none", x.wrong(1), 0);
        C.due("wrong(-1)", x.wrong(-1), BAD);
        C.due("wrong(2)", x.wrong(2), BAD);
        C.due("wrong(LOW)", x.wrong(LOW), BAD);
        C.due("wrong(HIGH)", x.wrong(HIGH), BAD);
        x.sends(0);
        x.sends(1);
        x.sends(1);
        x.sends(0);
        C.due("wrong(0)", x.wrong(0), 0);
        C.due("wrong(1): there is no WINDOW", x.wrong(1), 4);
        x.flips(1);
        C.due("all four by STATES", x.wrong(0), 4);
        BannedRows y = View.told("b101;q3;p2;");
        for (int i = 0; i < 5; i++) {
            y.sends(0);
        }
        y.flips(2);
        C.due("one by the WINDOW", y.wrong(1), 1);
    }

    private static void promise15() {
        BannedRows x = new BannedRows();
        int[] off = {-1, 4, LOW, HIGH};
        for (int n : off) {
            C.due("sees(n)", x.sees(n), BAD);
        }
        for (int i = 1; i <= 6; i++) {
            C.due("sees()", x.sees(i & 3), i);
            C.due("count(10)", x.count(10), i);
        }
        C.due("sees() at 6", x.sees(0), FULL);
        C.due("sees(4) at 6", x.sees(4), BAD);
        C.due("nothing to undo", x.count(12), 0);
        BannedRows y = View.told("c1;p3;q4;");
        C.due("sees(15), none GOOD", y.sees(15), 1);
        C.due("sees(16)", y.sees(16), BAD);
    }

    private static void promise16() {
        BannedRows x = new BannedRows();
        C.due("forget() of none", x.forget(), 0);
        x.sees(1);
        x.sees(2);
        x.sends(1);
        C.due("forget()", x.forget(), 2);
        C.due("nothing is SEEN", x.count(10), 0);
        C.due("WHICH is all that is GOOD", x.which(0), 7);
        C.due("the line stays", x.count(8), 1);
        C.due("forget() again", x.forget(), 0);
    }

    private static void promise17() {
        BannedRows x = new BannedRows();
        C.due("which(0), nothing SEEN", x.which(0), 7);
        C.due("which(1), nothing SEEN", x.which(1), 7);
        C.due("which(-1)", x.which(-1), BAD);
        C.due("which(2)", x.which(2), BAD);
        C.due("which(LOW)", x.which(LOW), BAD);
        C.due("which(HIGH)", x.which(HIGH), BAD);
        x.sees(2);
        C.due("10 from 1 and 2", x.which(0), 6);
        C.due("to 1", x.which(1), 2);
        x.forget();
        x.sees(0);
        C.due("00 with a TAG from 0 alone", x.which(0), 1);
        C.due("to 2", x.which(1), 4);
        x.sees(2);
        C.due("00 10 from 0", x.which(0), 1);
        C.due("to 1", x.which(1), 2);
        x.sees(0);
        C.due("then 00 has no TAG", x.which(0), 0);
        C.due("nowhere", x.which(1), 0);
        BannedRows y = View.told("c1;p3;q4;");
        C.due("none is GOOD", y.which(0), 0);
        C.due("none is THERE", y.which(1), 0);
    }

    private static void promise18() {
        BannedRows x = new BannedRows();
        C.due("two and two: the least TAG", x.ask(), 0);
        x.sees(2);
        C.due("one is THERE", x.ask(), NONE);
        x.sees(3);
        C.due("none is THERE", x.ask(), NONE);
        C.due("none is GOOD", View.told("c1;p3;q4;").ask(), NONE);
        // All have 00 for TAG 0; for TAG 1 the STATES 0 and 2 have 01, STATE 1 has 10.
        C.due("a higher TAG tells more", View.told("b101;p1;q2;").ask(), 1);
        // For TAG 0 STATE 0 has 01, STATE 1 has 10: two are enough to ask.
        C.due("two are THERE", View.told("r0 1;").ask(), 0);
    }

    private static void promise19And20() {
        BannedRows x = new BannedRows();
        int[] off = {-1, 2, LOW, HIGH};
        for (int n : off) {
            C.due("keep(n)", x.keep(n), BAD);
            C.due("back(n)", x.back(n), BAD);
        }
        x.sends(0);
        C.due("back(0), none kept", x.back(0), STATE);
        C.due("keep(0)", x.keep(0), 1);
        C.due("back(1), none kept", x.back(1), STATE);
        x.flips(0);
        x.sends(1);
        C.due("keep(1)", x.keep(1), 2);
        x.sends(1);
        C.due("back(0)", x.back(0), 1);
        counts("image 0", x, 4, 0, 1, 2, 7, 0, 2, NONE, 1, 0, 0, 0, 0);
        C.due("its WORD", x.word(0, 0), 0);
        C.due("back(1)", x.back(1), 2);
        counts("image 1", x, 4, 0, 1, 2, 7, 0, 1, NONE, 2, 1, 0, 0, 0);
        C.due("its WORD", x.word(0, 0), 2);
        C.due("its TAG", x.word(1, 1), 1);
        x.sends(1);
        C.due("back(1) twice", x.back(1), 2);
        C.due("keep(0) anew", x.keep(0), 2);
        C.due("back(0)", x.back(0), 2);
    }

    private static void promise20Past() {
        BannedRows x = new BannedRows();
        x.sends(0);
        x.keep(0);
        View.type(x, "c1");
        x.sees(1);
        x.sends(1);
        C.due("may be UNDONE", x.count(12), 2);
        x.back(0);
        C.due("THE TEXT stays", x.count(11), 2);
        C.due("what was SEEN stays", x.count(10), 1);
        C.due("nothing can be UNDONE", x.undo(), STATE);
        x.sends(1);
        C.due("but what comes then", x.undo(), 0);
        C.due("WORDS", x.count(8), 1);
        View.type(x, ";");
        x.tells();
        x.keep(1);
        x.undo();
        C.due("STATES", x.count(0), 4);
        C.due("image 0 stays gone", x.back(0), STATE);
        C.due("back(1) with its BAN", x.back(1), 0);
        C.due("STATES of the image", x.count(0), 3);
        C.due("START of the image", x.count(1), 1);
    }

    private static void promise21() {
        BannedRows x = View.told("c2;q4;p3;");
        counts("c2", x, 5, 2, 3, 4, 10, 1, 1, NONE, 0, 0, 0, 0, 1);
        x.sends(7);
        x.sends(0);
        x.sends(5);
        x.flips(0);
        x.flips(11);
        x.sees(3);
        x.type('c');
        x.type('1');
        counts("c2, used", x, 5, 2, 3, 4, 10, 1, 3, NONE, 3, 2, 1, 2, 6);
        counts("c2, told again", x, 5, 2, 3, 4, 10, 1, 3, NONE, 3, 2, 1, 2, 6);
        int[] off = {-1, 13, LOW, HIGH};
        for (int n : off) {
            C.due("count(n)", x.count(n), BAD);
        }
        counts("none GOOD", View.told("c1;p3;q4;"), 3, 1, 3, 4, 0, NONE, NONE, NONE, 0, 0, 0, 0, 1);
        C.due("WINDOW 0", View.told("b101;q3;p2;").count(7), 0);
        C.due("WINDOW 1", View.told("c1;p1;q3;").count(7), 1);
        C.due("WINDOW 2", View.told("c2;p1;q3;").count(7), 2);
    }
}
