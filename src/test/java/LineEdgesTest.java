import java.util.function.Consumer;

/** Part 2 of the document's terms, sentence by sentence: the bounds of arcs, of the line and of what is undone. */
public final class LineEdgesTest {
    private static final int BAD = -1, STATE = -2, FULL = -3, NONE = -9;
    private static final Check C = new Check("LineEdgesTest");

    public static void main(String[] args) {
        firstBitHighest();
        arcsBreakOff();
        justEnoughArcs();
        arcsToOthers();
        noneGood();
        asManyAsCanBe();
        tagsRising();
        begin();
        lineRoom();
        sendsFromSend();
        turned();
        toldEmptiesTheLine();
        undoneEach();
        undoneNotRefused();
        sixKnown();
        undoneAcrossBans();
        allWordsBroughtAgain();
        undoneLeavesTheRest();
        undoneAndDoneAnew();
        readByStates();
        readWithTagsAlone();
        readFromBegin();
        windowWidths();
        windowNone();
        readByWindowZero();
        readByWindowOne();
        readByWindowTwo();
        readByWindowToldAnew();
        noWindow();
        C.end();
    }

    private static void sends(BannedRows x, int... tags) {
        for (int tag : tags) {
            x.sends(tag);
        }
    }

    private static void words(String what, BannedRows x, int which, int... want) {
        C.due(what + ": WORDS", x.count(8), want.length);
        for (int i = 0; i < want.length; i++) {
            C.due(what + ": word(" + i + ", " + which + ")", x.word(i, which), want[i]);
        }
    }

    private static void firstBitHighest() {
        C.about("An ARC: from a STATE over a WORD (Q bits, as a number, the first bit the highest)");
        BannedRows x = View.told("c3;q4;");
        C.due("0011 from 2", x.arc(2, 3, 0), 2);
        C.due("1100 from 2", x.arc(2, 12, 0), 2);
        C.due("0011 from 1 goes below", x.arc(1, 3, 0), NONE);
        C.due("1100 from 1", x.arc(1, 12, 0), 1);
        C.due("WORD 15", x.arc(0, 15, 0), 4);
        C.due("WORD 16", x.arc(0, 16, 0), BAD);
        BannedRows one = View.told("c1;q1;");
        C.due("Q 1: WORD 0", one.arc(1, 0, 0), 0);
        C.due("Q 1: WORD 1", one.arc(1, 1, 0), 2);
        C.due("Q 1: WORD 2", one.arc(1, 2, 0), BAD);
        BannedRows three = View.told("b110;q3;");
        C.due("Q 3: 011 from 0", three.arc(0, 3, 0), 2);
        C.due("Q 3: 110 from 0", three.arc(0, 6, 0), NONE);
        C.due("Q 3: WORD 8", three.arc(0, 8, 0), BAD);
    }

    private static void arcsBreakOff() {
        C.about("to the STATE to which its bits lead, if they do");
        BannedRows x = new BannedRows();
        C.due("the first bit does not lead", x.arc(0, 2, 0), NONE);
        C.due("the last bit does not lead", x.arc(2, 0, 0), NONE);
        C.due("both lead", x.arc(1, 2, 0), 1);
        C.due("no ARC has no TAG", x.arc(2, 0, 1), NONE);
        C.due("how many ARCS", x.state(2, 0), 2);
        C.due("one ARC alone", x.state(3, 0), 1);
        BannedRows y = View.told("r3 3;q4;");
        C.due("r3 3: one row alone", y.state(0, 0), 1);
        C.due("r3 3: 0001", y.arc(0, 1, 0), 0);
        C.due("r3 3: 0000", y.arc(0, 0, 0), NONE);
        BannedRows free = View.told("b00000;q4;");
        C.due("b00000: all 16", free.state(0, 0), 16);
    }

    private static void justEnoughArcs() {
        C.about("from each of them 2 to the P ARCS or more lead to GOOD ones");
        BannedRows x = new BannedRows();
        C.due("two ARCS are enough for P 1", x.state(0, 1), 1);
        C.due("they are two", x.state(0, 0), 2);
        C.due("one is not", x.state(3, 1), 0);
        BannedRows four = View.told("r0 5;q2;p2;");
        C.due("four ARCS are enough for P 2", four.state(0, 0), 4);
        C.due("but they must lead to GOOD ones", four.state(0, 1), 0);
        BannedRows y = View.told("c1;q4;p2;");
        C.due("c1: the middle has four", y.state(1, 0), 4);
        C.due("c1: to 1 alone, which is GOOD by itself", y.state(1, 1), 1);
        C.due("c1: the sides have four, to both sides", y.state(0, 0), 4);
        C.due("c1: all are GOOD", y.count(4), 7);
        BannedRows z = View.told("c1;q4;p3;");
        C.due("c1: four are not enough for P 3", z.count(4), 0);
    }

    private static void arcsToOthers() {
        C.about("lead to GOOD ones");
        BannedRows x = View.told("c2;q4;p3;");
        C.due("12 ARCS", x.state(2, 0), 12);
        C.due("6 of them lead to ones that have 6 alone", x.state(0, 0), 6);
        C.due("so that 2 is not GOOD", x.state(2, 1), 0);
        C.due("1 is", x.state(1, 1), 1);
        C.due("GOOD ones", x.count(4), 2 | 8);
    }

    private static void noneGood() {
        C.about("(none, if there are no such)");
        BannedRows x = View.told("r0 5;q2;p2;");
        C.due("GOOD ones", x.count(4), 0);
        for (int s = 0; s <= 5; s++) {
            C.due("state(" + s + ", 1)", x.state(s, 1), 0);
            for (int w = 0; w <= 3; w++) {
                C.due("no TAG is there", x.arc(s, w, 1), NONE);
            }
        }
        C.due("but ARCS are: 11 from 0", x.arc(0, 3, 0), 0);
        C.due("BEGIN", x.count(5), NONE);
        C.due("SEND", x.count(6), NONE);
        C.due("WINDOW", x.count(7), NONE);
        Consumer<BannedRows> told = y -> {
            View.type(y, "r0 5;q2;p2;");
            y.tells();
        };
        Deep.unchanged(C, "sends(0), none is GOOD", told, y -> y.sends(0), STATE);
        Deep.unchanged(C, "sends(3), none is GOOD", told, y -> y.sends(3), STATE);
        Deep.unchanged(C, "sends(4), none is GOOD", told, y -> y.sends(4), BAD);
    }

    private static void asManyAsCanBe() {
        C.about("GOOD are as many STATES as can be");
        C.due("r1 3: 0, 1, 2 and not 0, 2 alone", new BannedRows().count(4), 7);
        C.due("b00000, Q 1: with the last fall all", View.told("b00000;q1;p1;").count(4), 0);
        C.due("b00000, Q 2: all five", View.told("b00000;q2;p1;").count(4), 31);
        C.due("c3, Q 2: all seven", View.told("c3;q2;p1;").count(4), 127);
    }

    private static void tagsRising() {
        C.about("of a GOOD STATE its ARCS to GOOD ones, by their WORDS rising, have TAGS 0, 1, .. , 2 to the P less 1;"
                + " the others have none");
        BannedRows x = new BannedRows();
        C.due("1 over 00 leads", x.arc(1, 0, 0), 3);
        C.due("but to no GOOD one", x.arc(1, 0, 1), NONE);
        C.due("1 over 01", x.arc(1, 1, 1), 0);
        C.due("1 over 10", x.arc(1, 2, 1), 1);
        C.due("3 over 10 leads to a GOOD one", x.arc(3, 2, 0), 1);
        C.due("but 3 is none", x.arc(3, 2, 1), NONE);
        BannedRows y = View.told("b00000;q4;p3;");
        for (int w = 0; w <= 15; w++) {
            C.due("0 over " + w + " leads", y.arc(0, w, 0) == NONE ? 0 : 1, 1);
            C.due("0 over " + w, y.arc(0, w, 1), w <= 7 ? w : NONE);
        }
        C.due("4 over 0000 does not lead", y.arc(4, 0, 1), NONE);
        C.due("4 over 1000", y.arc(4, 8, 1), 0);
        C.due("4 over 1111", y.arc(4, 15, 1), 7);
    }

    private static void begin() {
        C.about("BEGIN: the lowest GOOD STATE");
        BannedRows x = View.told("c2;q4;p3;");
        C.due("BEGIN", x.count(5), 1);
        C.due("it is not the START", x.count(1), 2);
        C.due("SEND is BEGIN at first", x.count(6), 1);
        C.due("0 can be it", View.told("c1;q4;p2;").count(5), 0);
        C.due("there is none", View.told("c1;q4;p3;").count(5), NONE);
    }

    private static void lineRoom() {
        C.about("THE LINE: WORDS (24 at most; none at first)");
        BannedRows x = new BannedRows();
        C.due("none", x.count(8), 0);
        C.due("word(0, 0)", x.word(0, 0), BAD);
        for (int i = 0; i < 24; i++) {
            C.due("sends(1) is 01 and stays at 0", x.sends(1), 1);
            C.due("WORDS", x.count(8), i + 1);
        }
        C.due("word(23, 0)", x.word(23, 0), 1);
        C.due("word(24, 0)", x.word(24, 0), BAD);
        C.due("flips(47)", x.flips(47), 0);
        C.due("flips(48)", x.flips(48), BAD);
        C.due("read to the end", x.wrong(0), 1);
        Consumer<BannedRows> full = y -> {
            for (int i = 0; i < 24; i++) {
                y.sends(i % 3 & 1);
            }
        };
        Deep.unchanged(C, "the 25th", full, y -> y.sends(0), FULL);
        Deep.unchanged(C, "the 25th", full, y -> y.sends(1), FULL);
        Deep.unchanged(C, "the 25th, no TAG", full, y -> y.sends(2), BAD);
        x.undo();
        x.undo();
        C.due("room again", x.sends(0), 0);
        C.due("WORDS", x.count(8), 24);
    }

    private static void sendsFromSend() {
        C.about("the WORD of the ARC with TAG t of SEND comes behind THE LINE, SEND becomes where it leads");
        BannedRows x = View.told("c1;p1;q3;");
        int[] tags = {0, 1, 0, 0, 1, 1, 1, 0};
        int[] words = {5, 3, 1, 2, 6, 3, 2, 2};
        int[] then = {1, 2, 1, 0, 1, 2, 1, 0};
        for (int i = 0; i < tags.length; i++) {
            C.due("sends", x.sends(tags[i]), words[i]);
            C.due("SEND", x.count(6), then[i]);
            C.due("BEGIN stays", x.count(5), 0);
        }
        words("as it is", x, 0, words);
        words("what TAGS were SENT", x, 1, tags);
        words("READ", x, 2, tags);
    }

    private static void turned() {
        C.about("TURNED: a bit of THE LINE is the other way (SEND stays)");
        BannedRows x = View.told("c1;p1;q3;");
        sends(x, 0, 1);
        C.due("the first bit", x.flips(0), 0);
        C.due("the last bit", x.flips(5), 0);
        words("as it is", x, 0, 1, 2);
        words("what TAGS were SENT", x, 1, 0, 1);
        C.due("SEND", x.count(6), 2);
        C.due("otherwise than SENT", x.count(9), 2);
        C.due("back again", x.flips(0), 1);
        C.due("otherwise than SENT", x.count(9), 1);
        C.due("sends on from SEND", x.sends(0), 1);
    }

    private static void toldEmptiesTheLine() {
        C.about("a text told (THE LINE is empty then)");
        BannedRows x = new BannedRows();
        sends(x, 0, 1, 1);
        x.flips(0);
        View.type(x, "r1 3;");
        x.tells();
        C.due("WORDS", x.count(8), 0);
        C.due("otherwise than SENT", x.count(9), 0);
        C.due("SEND is BEGIN", x.count(6), 0);
        C.due("word(0, 0)", x.word(0, 0), BAD);
        C.due("flips(0)", x.flips(0), BAD);
        x.sends(0);
        C.due("no bit is TURNED", x.count(9), 0);
    }

    private static void undoneEach() {
        C.about("UNDONE: the latest tells(), sends(), flips() that was not refused: all that 1 and this 2 tell but THE"
                + " TEXT is as ahead of it");
        Consumer<BannedRows> before = x -> {
            View.type(x, "c2;p1;q3;");
            x.tells();
            sends(x, 0, 1, 0);
            x.flips(4);
        };
        Deep.same(C, "sends() and undo()", Deep.of(Deep.made(before.andThen(x -> {
            x.sends(1);
            C.due("undo()", x.undo(), 5);
        }))), Deep.of(Deep.made(before)));
        Deep.same(C, "flips() and undo()", Deep.of(Deep.made(before.andThen(x -> {
            x.flips(8);
            C.due("undo()", x.undo(), 5);
        }))), Deep.of(Deep.made(before)));
        Deep.same(C, "tells() and undo()", Deep.of(Deep.made(before.andThen(x -> {
            View.type(x, "b0110;p3;q4;");
            C.due("tells()", x.tells(), 4);
            C.due("undo()", x.undo(), 5);
        }))), Deep.of(Deep.made(before)));
        BannedRows x = Deep.made(before).get();
        View.type(x, "b01");
        x.undo();
        C.due("THE TEXT stays", x.count(11), 3);
        x.type(';');
        C.due("with its letters", x.tells(), 2);
        x.undo();
        C.due("and is not brought again", x.count(11), 0);
    }

    private static void undoneNotRefused() {
        C.about("the latest tells(), sends(), flips() that was not refused");
        BannedRows x = new BannedRows();
        sends(x, 0, 1);
        C.due("sends(2)", x.sends(2), BAD);
        C.due("flips(4)", x.flips(4), BAD);
        View.type(x, "c9;");
        C.due("tells()", x.tells(), -11);
        C.due("may be UNDONE", x.count(12), 2);
        C.due("undo()", x.undo(), 1);
        C.due("the latest one SENT", x.count(8), 1);
        C.due("undo()", x.undo(), 0);
        Deep.unchanged(C, "undo() of none", y -> View.type(y, "c1;"), BannedRows::undo, STATE);
        Deep.unchanged(C, "undo() behind all", y -> {
            y.sends(1);
            y.keep(0);
            y.undo();
        }, BannedRows::undo, STATE);
    }

    private static void sixKnown() {
        C.about("(6 are known, older ones are lost)");
        for (int done = 0; done <= 9; done++) {
            BannedRows x = new BannedRows();
            for (int i = 0; i < done; i++) {
                x.sends(1);
            }
            int known = Math.min(done, 6);
            C.due("known of " + done, x.count(12), known);
            for (int i = known - 1; i >= 0; i--) {
                C.due("undo()", x.undo(), i);
            }
            C.due("no more", x.undo(), STATE);
            C.due("WORDS that stay", x.count(8), done - known);
        }
        BannedRows x = new BannedRows();
        View.type(x, "c1;q3;");
        x.tells();
        sends(x, 0, 1);
        x.flips(0);
        x.flips(1);
        View.type(x, "r0 1;");
        x.tells();
        x.sends(1);
        C.due("the seventh is lost", x.count(12), 6);
        int[] states = {2, 3, 3, 3, 3, 3};
        int[] words = {0, 2, 2, 2, 1, 0};
        int[] bits = {0, 2, 1, 0, 0, 0};
        for (int i = 0; i < 6; i++) {
            C.due("undo()", x.undo(), 5 - i);
            C.due("STATES", x.count(0), states[i]);
            C.due("WORDS", x.count(8), words[i]);
            C.due("TURNED", x.count(9), bits[i]);
        }
        C.due("the first tells() is not UNDONE", x.undo(), STATE);
        C.due("Q stays", x.count(3), 3);
    }

    private static void undoneAcrossBans() {
        C.about("all that 1 and this 2 tell but THE TEXT is as ahead of it");
        BannedRows x = View.told("c2;p3;q4;");
        sends(x, 7, 0, 5);
        x.flips(0);
        View.type(x, "b00;p1;q1;");
        x.tells();
        C.due("START", x.count(1), 0);
        C.due("undo()", x.undo(), 5);
        int[] want = {5, 2, 3, 4, 10, 1, 3, NONE, 3, 1, 0, 0, 5};
        for (int what = 0; what <= 12; what++) {
            C.due("count(" + what + ")", x.count(what), want[what]);
        }
        words("as it is", x, 0, 5, 1, 11);
        words("what was SENT", x, 1, 7, 0, 5);
        C.due("step", x.step(4, 0), 3);
        C.due("sends() goes on", x.sends(0), x.word(3, 0));
    }

    private static void allWordsBroughtAgain() {
        C.about("THE LINE: WORDS (24 at most; none at first)");
        BannedRows x = View.told("b101;p2;q3;");
        for (int i = 0; i < 23; i++) {
            x.sends(0);
        }
        x.sends(3);
        x.keep(0);
        C.due("the last bit", x.flips(71), 0);
        x.undo();
        C.due("UNDONE: the last WORD", x.word(23, 0), 3);
        View.type(x, "b101;p2;q3;");
        x.tells();
        for (int i = 0; i < 24; i++) {
            x.sends(1);
        }
        View.type(x, "c1;");
        x.tells();
        x.undo();
        C.due("UNDONE: the last WORD", x.word(23, 0), 1);
        C.due("UNDONE: the last TAG", x.word(23, 1), 1);
        x.keep(1);
        for (int i = 0; i < 5; i++) {
            x.undo();
        }
        sends(x, 3, 3, 3, 3, 3);
        C.due("the last WORD", x.word(23, 1), 3);
        C.due("back(1)", x.back(1), 24);
        C.due("the IMAGE: the last WORD", x.word(23, 0), 1);
        C.due("the IMAGE: the last TAG", x.word(23, 1), 1);
        C.due("the IMAGE: no bit TURNED", x.count(9), 0);
    }

    private static void undoneLeavesTheRest() {
        C.about("all that 1 and this 2 tell but THE TEXT is as ahead of it");
        BannedRows x = new BannedRows();
        x.sends(0);
        x.sees(2);
        x.sends(1);
        x.keep(1);
        x.sees(1);
        View.type(x, "c");
        C.due("undo()", x.undo(), 1);
        C.due("what was SEEN stays", x.count(10), 2);
        C.due("WHICH", x.which(0), 6);
        C.due("THE TEXT stays", x.count(11), 1);
        C.due("the IMAGE stays", x.back(1), 2);
        BannedRows y = new BannedRows();
        View.type(y, "c1;q4;p2;");
        y.tells();
        y.sees(5);
        y.sees(15);
        y.keep(0);
        C.due("undo() of tells()", y.undo(), 0);
        C.due("what was SEEN behind it stays", y.count(10), 2);
        C.due("15 is no WORD of 2 bits: no ARC leads over it", y.which(0), 0);
        C.due("none is THERE", y.which(1), 0);
        C.due("ask()", y.ask(), NONE);
        C.due("forget()", y.forget(), 2);
        C.due("the IMAGE kept behind it stays", y.back(0), 0);
        C.due("with its Q", y.count(3), 4);
    }

    private static void undoneAndDoneAnew() {
        C.about("(6 are known, older ones are lost)");
        BannedRows x = new BannedRows();
        for (int i = 0; i < 20; i++) {
            x.sends(1);
        }
        for (int i = 0; i < 4; i++) {
            x.undo();
        }
        C.due("two of six are left", x.count(12), 2);
        for (int i = 3; i <= 6; i++) {
            x.flips(i);
            C.due("known again", x.count(12), i);
        }
        x.flips(7);
        C.due("six at most", x.count(12), 6);
        for (int i = 4; i >= 0; i--) {
            x.undo();
            C.due("bits", x.count(9), i);
            C.due("WORDS", x.count(8), 16);
        }
        C.due("the last one known", x.undo(), 0);
        C.due("WORDS", x.count(8), 15);
        C.due("undo()", x.undo(), STATE);
    }

    private static void readByStates() {
        C.about("if an ARC with a TAG leads over it from the STATE there is, it tells that TAG, and leads on; else NONE,"
                + " and the STATE stays");
        BannedRows x = new BannedRows();
        sends(x, 0, 1, 1, 0);
        words("as SENT", x, 2, 0, 1, 1, 0);
        x.flips(1);
        words("01 for 00: then from 0 over 10, 10, 01", x, 2, 1, NONE, NONE, 1);
        C.due("wrong(0)", x.wrong(0), 4);
        x.flips(0);
        words("11 leads nowhere: then from 0 over 10, 10, 01", x, 2, NONE, NONE, NONE, 1);
        BannedRows y = new BannedRows();
        sends(y, 0, 1);
        y.flips(3);
        words("the last WORD alone", y, 2, 0, NONE);
    }

    private static void readWithTagsAlone() {
        C.about("if an ARC with a TAG leads over it");
        BannedRows x = View.told("b11111;p1;q2;");
        sends(x, 0, 1);
        words("00, 01", x, 0, 0, 1);
        x.flips(0);
        C.due("10 leads", x.arc(0, 2, 0), 0);
        words("but has no TAG", x, 2, NONE, 1);
        words("by the WINDOW neither", x, 3, NONE, 1);
        C.about("else NONE, and the STATE stays");
        BannedRows y = new BannedRows();
        sends(y, 0, 1, 0, 1);
        y.flips(5);
        C.due("00 leads from 1 to 3", y.arc(1, 0, 0), 3);
        words("but has no TAG, so that 01 is READ from 1", y, 2, 0, 1, NONE, 0);
    }

    private static void readFromBegin() {
        C.about("READ by STATES: from BEGIN on");
        BannedRows x = View.told("c2;p3;q4;");
        sends(x, 7, 0, 5);
        words("READ", x, 2, 7, 0, 5);
        C.due("BEGIN", x.count(5), 1);
        C.due("wrong(0)", x.wrong(0), 0);
    }

    private static void windowWidths() {
        C.about("WINDOW: the least m (0 to 3)");
        C.due("b11, Q 2", View.told("b11;p1;q2;").count(7), 0);
        C.due("c1, Q 4", View.told("c1;p1;q4;").count(7), 0);
        C.due("c1, Q 3", View.told("c1;p1;q3;").count(7), 1);
        C.due("c2, Q 4", View.told("c2;p1;q4;").count(7), 1);
        C.due("c2, Q 3", View.told("c2;p1;q3;").count(7), 2);
        C.due("c3, Q 3", View.told("c3;p1;q3;").count(7), 2);
    }

    private static void windowNone() {
        C.about("NONE: by none, or no STATE is GOOD");
        C.due("r1 3: 01 has TAG 1 from 0, TAG 0 from 1, and leads both to 0", new BannedRows().count(7), NONE);
        C.due("r0 1", View.told("r0 1;p1;q2;").count(7), NONE);
        C.due("none is GOOD", View.told("c1;p3;q4;").count(7), NONE);
        C.due("Q 1", View.told("c1;q1;").count(7), NONE);
    }

    private static void readByWindowZero() {
        C.about("READ by the WINDOW: WORD i tells the first TAG of such m and 1 ARCS that have WORDS i to i and m");
        BannedRows x = View.told("b11;p1;q2;");
        sends(x, 1);
        C.due("m is 0: one WORD is enough", x.word(0, 3), 1);
        sends(x, 0);
        words("READ", x, 3, 1, 0);
        C.about("NONE, if there are none such");
        C.due("flips(0)", x.flips(0), 1);
        words("11 for 01", x, 3, NONE, 0);
        C.due("wrong(1)", x.wrong(1), 1);
    }

    private static void readByWindowOne() {
        C.about("NONE, if there are none such, or not so many WORDS");
        BannedRows x = View.told("c1;p1;q3;");
        sends(x, 0);
        words("one WORD", x, 3, NONE);
        C.due("wrong(1)", x.wrong(1), 1);
        sends(x, 1);
        words("two WORDS", x, 3, 0, NONE);
        sends(x, 1, 0, 1);
        words("as it is", x, 0, 5, 3, 2, 2, 6);
        words("READ: 010 by what comes behind it", x, 3, 0, 1, 1, 0, NONE);
        x.flips(14);
        words("010 with 111 behind it is from none", x, 3, 0, 1, 1, NONE, NONE);
    }

    private static void readByWindowTwo() {
        C.about("NONE, if there are none such, or not so many WORDS");
        BannedRows x = View.told("c2;p1;q3;");
        sends(x, 0, 1);
        words("two WORDS", x, 3, NONE, NONE);
        sends(x, 0);
        words("three", x, 3, 0, NONE, NONE);
        sends(x, 0, 1);
        words("as it is", x, 0, 5, 3, 1, 2, 6);
        words("five", x, 3, 0, 1, 0, NONE, NONE);
        C.due("wrong(1)", x.wrong(1), 2);
        x.flips(12);
        words("010 for 110 at the end: 001 010 010 is from 3", x, 3, 0, 1, 1, NONE, NONE);
        x.flips(12);
        x.flips(2);
        words("100 for 101 at the start", x, 3, NONE, 1, 0, NONE, NONE);
    }

    private static void readByWindowToldAnew() {
        C.about("NONE, if there are none such, or not so many WORDS");
        BannedRows x = View.told("c1;p1;q3;");
        sends(x, 0, 1, 0);
        View.type(x, "c1;p1;q3;");
        x.tells();
        sends(x, 0);
        words("WORDS that are gone are not READ", x, 3, NONE);
        BannedRows y = View.told("c2;p1;q3;");
        sends(y, 0, 1, 0, 0, 1);
        View.type(y, "c2;p1;q3;");
        y.tells();
        sends(y, 0, 1);
        words("WORDS that are gone are not READ", y, 3, NONE, NONE);
    }

    private static void noWindow() {
        C.about("(There is no WINDOW: NONE for all.)");
        BannedRows x = new BannedRows();
        for (int i = 0; i < 24; i++) {
            x.sends(i & 1);
        }
        for (int i = 0; i < 24; i++) {
            C.due("word(" + i + ", 3)", x.word(i, 3), NONE);
        }
        C.due("wrong(1)", x.wrong(1), 24);
        C.due("wrong(0)", x.wrong(0), 0);
    }
}
