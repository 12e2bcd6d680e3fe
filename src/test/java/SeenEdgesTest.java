import java.util.function.Consumer;

/** Part 3 of the document's terms, sentence by sentence: rows, weights, what was seen, images. */
public final class SeenEdgesTest {
    private static final int BAD = -1, STATE = -2, FULL = -3, NONE = -9;
    private static final Check C = new Check("SeenEdgesTest");

    public static void main(String[] args) {
        rowsBounds();
        rowsFromStart();
        weightBounds();
        weightsFall();
        weightsSettle();
        shares();
        shareOfNone();
        sixSeen();
        nothingSeen();
        seenWithTags();
        seenFromGood();
        oneThere();
        severalAlike();
        higherTag();
        imagesAreTwo();
        imagesKeep();
        imagesKeepNothingElse();
        nothingUndoneBehindBack();
        toldImagesGone();
        faultImagesStay();
        C.end();
    }

    private static void sees(BannedRows x, int... words) {
        for (int word : words) {
            x.sees(word);
        }
    }

    private static void rowsBounds() {
        C.about("ROWS of n: how many rows of n bits (0 to 20)");
        C.due("rows(0)", new BannedRows().rows(0), 1);
        C.due("rows(0) of c3", View.told("c3;").rows(0), 1);
        C.due("rows(0), none is GOOD", View.told("c1;p3;q4;").rows(0), 1);
        C.due("rows(20)", new BannedRows().rows(20), 1873);
        C.due("rows(20) of c1", View.told("c1;").rows(20), 1024);
        C.due("rows(20) of b01", View.told("b01;").rows(20), 21);
        C.due("rows(20) of r3 3", View.told("r3 3;").rows(20), 1);
        C.due("rows(20) of b00000", View.told("b00000;").rows(20), 786568);
        int[] off = {-1, 21, 22, Integer.MIN_VALUE, Integer.MAX_VALUE};
        for (int n : off) {
            Deep.unchanged(C, "rows(" + n + ")", x -> x.sends(1), x -> x.rows(n), BAD);
        }
    }

    private static void rowsFromStart() {
        C.about("lead somewhere from the START");
        C.due("c1 from the middle", View.told("c1;").rows(1), 2);
        C.due("c1 from the middle", View.told("c1;").rows(2), 2);
        C.due("c2: rows(3)", View.told("c2;").rows(3), 6);
        C.due("b10: rows(5)", View.told("b10;").rows(5), 6);
        BannedRows x = new BannedRows();
        C.due("r1 3 from 0", x.rows(1), 1);
        x.sends(0);
        C.due("not from SEND", x.rows(1), 1);
        C.due("P and Q are nothing to it", View.told("r1 3;p3;q4;").rows(5), x.rows(5));
    }

    private static void weightBounds() {
        C.about("WEIGHTS by L (1 to 9)");
        BannedRows x = View.told("c1;p1;q4;");
        for (int l = 1; l <= 9; l++) {
            C.due("weight(0, " + l + ", 0)", x.weight(0, l, 0), l);
            C.due("weight(2, " + l + ", 1)", x.weight(2, l, 1), 333);
        }
        int[] off = {0, 10, -1, Integer.MIN_VALUE, Integer.MAX_VALUE};
        for (int l : off) {
            Deep.unchanged(C, "weight(0, " + l + ", 0)", y -> y.sends(1), y -> y.weight(0, l, 0), BAD);
            Deep.unchanged(C, "weight(0, " + l + ", 1)", y -> y.sends(1), y -> y.weight(0, l, 1), BAD);
        }
    }

    private static void weightsFall() {
        C.about("what is less of it and of the sum, over its ARCS, of WEIGHTS of where they lead, by 2 to the P, cut");
        BannedRows x = new BannedRows();
        // STATE 3 has one ARC, to 1: half of 9, cut; 1 then has (4 + 9 + 9) / 2, which is not less.
        int[] want = {9, 9, 9, 4};
        for (int s = 0; s <= 3; s++) {
            C.due("weight(" + s + ", 9, 0)", x.weight(s, 9, 0), want[s]);
        }
        C.due("half of 1, cut", x.weight(3, 1, 0), 0);
        C.due("half of 2", x.weight(3, 2, 0), 1);
        C.due("half of 3, cut", x.weight(3, 3, 0), 1);
        C.due("the sum over three ARCS is enough", x.weight(1, 1, 0), 1);
    }

    private static void weightsSettle() {
        C.about("till none becomes another");
        BannedRows x = View.told("r0 5;q2;p2;");
        for (int s = 0; s <= 5; s++) {
            C.due("r0 5, P 2: weight(" + s + ", 9, 0)", x.weight(s, 9, 0), 0);
        }
        BannedRows seven = View.told("c3;q1;p3;");
        // All seven become 1 or 2 at once, and 0 with the next time.
        for (int s = 0; s <= 6; s++) {
            C.due("c3, P 3: weight(" + s + ", 9, 0)", seven.weight(s, 9, 0), 0);
        }
        BannedRows y = View.told("c2;q4;p3;");
        // 0 and 4: (2 w0 + 3 w2 + w4) / 8; 2: (3 w0 + 6 w2 + 3 w4) / 8; 1 and 3 have eight and eight.
        int[] want = {1, 3, 3, 3, 1};
        for (int s = 0; s <= 4; s++) {
            C.due("c2: weight(" + s + ", 3, 0)", y.weight(s, 3, 0), want[s]);
        }
        int[] by1 = {0, 1, 0, 1, 0};
        for (int s = 0; s <= 4; s++) {
            C.due("c2: weight(" + s + ", 1, 0)", y.weight(s, 1, 0), by1[s]);
        }
    }

    private static void shares() {
        C.about("SHARE of a STATE: 1000 times its WEIGHT by all WEIGHTS together, cut");
        BannedRows x = new BannedRows();
        int[] want = {290, 290, 290, 129};
        for (int s = 0; s <= 3; s++) {
            C.due("weight(" + s + ", 9, 1)", x.weight(s, 9, 1), want[s]);
        }
        BannedRows y = View.told("c2;q4;p3;");
        C.due("half of all", y.weight(1, 1, 1), 500);
        C.due("nothing of all", y.weight(0, 1, 1), 0);
        C.due("1 of 11", y.weight(0, 3, 1), 90);
        C.due("3 of 11", y.weight(2, 3, 1), 272);
    }

    private static void shareOfNone() {
        C.about("(0, if these are 0)");
        BannedRows x = View.told("c1;p3;q4;");
        for (int l = 1; l <= 9; l++) {
            for (int s = 0; s <= 2; s++) {
                C.due("weight(" + s + ", " + l + ", 0)", x.weight(s, l, 0), 0);
                C.due("weight(" + s + ", " + l + ", 1)", x.weight(s, l, 1), 0);
            }
        }
    }

    private static void sixSeen() {
        C.about("SEEN (6 WORDS at most, one behind the other)");
        BannedRows x = new BannedRows();
        for (int i = 1; i <= 5; i++) {
            C.due("sees(1)", x.sees(1), i);
            C.due("all lead to 0", x.which(1), 1);
        }
        C.due("the sixth", x.sees(0), 6);
        C.due("counts", x.which(1), 4);
        C.due("WHICH", x.which(0), 7);
        Consumer<BannedRows> full = y -> {
            View.type(y, "c1");
            y.sends(0);
            y.keep(0);
            sees(y, 1, 1, 1, 1, 1, 0);
        };
        Deep.unchanged(C, "the seventh", full, y -> y.sees(1), FULL);
        Deep.unchanged(C, "the seventh, no WORD", full, y -> y.sees(4), BAD);
        Deep.unchanged(C, "the seventh, no WORD", full, y -> y.sees(-1), BAD);
        C.due("forget()", x.forget(), 6);
        C.due("room again", x.sees(3), 1);
        C.due("the order counts: 00 01", there(0, 1), 1);
        C.due("the order counts: 01 00", there(1, 0), 4);
        C.due("the order counts: 00 00", there(0, 0), 0);
    }

    private static int there(int... words) {
        BannedRows x = new BannedRows();
        sees(x, words);
        return x.which(1);
    }

    private static void nothingSeen() {
        C.about("WHICH: GOOD STATES from which ARCS with TAGS lead over all that was SEEN");
        BannedRows x = View.told("c2;q4;p3;");
        C.due("WHICH", x.which(0), 10);
        C.due("THERE", x.which(1), 10);
        BannedRows y = View.told("c1;p3;q4;");
        C.due("none is GOOD: WHICH", y.which(0), 0);
        C.due("none is GOOD: THERE", y.which(1), 0);
        C.due("sees() a WORD all the same", y.sees(5), 1);
        C.due("none is GOOD: WHICH", y.which(0), 0);
    }

    private static void seenWithTags() {
        C.about("ARCS with TAGS lead over all");
        BannedRows x = View.told("b11111;p1;q2;");
        C.due("10 leads from 0", x.arc(0, 2, 0), 0);
        x.sees(2);
        C.due("but with no TAG", x.which(0), 0);
        C.due("THERE", x.which(1), 0);
        x.forget();
        x.sees(1);
        C.due("01 has TAGS from all five", x.which(0), 31);
        C.due("and leads to 1", x.which(1), 2);
        x.sees(2);
        C.due("the second has none", x.which(0), 0);
    }

    private static void seenFromGood() {
        C.about("came from a GOOD STATE that is not known");
        BannedRows x = new BannedRows();
        x.sees(2);
        C.due("3 over 10 leads, but 3 is not GOOD", x.which(0), 6);
        C.due("THERE", x.which(1), 2);
        x.sends(0);
        C.due("THE LINE is nothing to it", x.which(0), 6);
    }

    private static void oneThere() {
        C.about("NONE (one can be THERE at most)");
        BannedRows none = View.told("c1;p3;q4;");
        C.due("none is GOOD", none.ask(), NONE);
        BannedRows x = new BannedRows();
        x.sees(3);
        C.due("none is THERE", x.ask(), NONE);
        x.forget();
        x.sees(1);
        C.due("three STATES, but one is THERE", x.which(0), 7);
        C.due("one is THERE", x.ask(), NONE);
        BannedRows two = View.told("c2;q4;p3;");
        C.due("two are THERE", two.which(1), 10);
        C.due("ask() of two", two.ask(), 0);
    }

    private static void severalAlike() {
        C.about("of several the least");
        // TAG 0: 00, 01, 01; TAG 1: 01, 10, 10: two and two.
        C.due("r1 3", new BannedRows().ask(), 0);
        // Each of the four TAGS has other WORDS from 0, 1 and 2.
        C.due("c1, P 2", View.told("c1;p2;q4;").ask(), 0);
    }

    private static void higherTag() {
        C.about("the TAG for which the greatest number of STATES that are THERE and have one WORD for it is least");
        // TAG 0: 00 from all three; TAG 1: 01 from 0 and 2, 10 from 1.
        C.due("b101", View.told("b101;p1;q2;").ask(), 1);
        // TAGS 0 to 2: one WORD from 0 and 1, another from 2; TAG 3: 100, 110, 111.
        C.due("b010, the last TAG", View.told("b010;p2;q3;").ask(), 3);
        BannedRows two = View.told("b00101;p1;q2;");
        two.sees(1);
        // TAG 0: 00 from both; TAG 1: 01 from 0, 10 from 3.
        C.due("b00101: THERE", two.which(1), 1 | 8);
        C.due("b00101, two THERE", two.ask(), 1);
        // TAG 0: 101, 010, 001, 000, 000; TAG 1: 110, 011, 010, 001, 001: two and two.
        C.due("c2, all five THERE", View.told("c2;p1;q3;").ask(), 0);
        BannedRows x = View.told("c2;p1;q3;");
        x.sees(1);
        // From 2, 3, 4 to 1, 2, 3: no WORD is had twice.
        C.due("THERE", x.which(1), 2 | 4 | 8);
        C.due("c2, three THERE", x.ask(), 0);
    }

    private static void imagesAreTwo() {
        C.about("IMAGES 0, 1");
        int[] off = {-1, 2, Integer.MIN_VALUE, Integer.MAX_VALUE};
        Consumer<BannedRows> kept = x -> {
            x.sends(0);
            x.keep(0);
            x.sends(1);
            x.keep(1);
            x.sends(1);
        };
        for (int n : off) {
            Deep.unchanged(C, "keep(" + n + ")", kept, x -> x.keep(n), BAD);
            Deep.unchanged(C, "back(" + n + ")", kept, x -> x.back(n), BAD);
            Deep.unchanged(C, "back(" + n + "), none kept", x -> x.sends(0), x -> x.back(n), BAD);
        }
        Deep.unchanged(C, "back(0), none kept", x -> x.sends(0), x -> x.back(0), STATE);
        Deep.unchanged(C, "back(1), none kept", x -> x.sends(0), x -> x.back(1), STATE);
        Deep.unchanged(C, "back(1), 0 kept", x -> x.keep(0), x -> x.back(1), STATE);
        Deep.unchanged(C, "back(0), 1 kept", x -> x.keep(1), x -> x.back(0), STATE);
        BannedRows x = Deep.made(kept).get();
        C.due("back(1)", x.back(1), 2);
        C.due("back(0)", x.back(0), 1);
        C.due("back(1) once more", x.back(1), 2);
        C.due("keep(1) of an empty LINE", new BannedRows().keep(1), 0);
    }

    private static void imagesKeep() {
        C.about("IMAGES 0, 1 keep all that 1 and 2 tell but THE TEXT");
        Consumer<BannedRows> kept = x -> {
            View.type(x, "c2;p3;q4;");
            x.tells();
            x.sends(7);
            x.sends(0);
            x.flips(3);
            x.keep(0);
        };
        Consumer<BannedRows> moved = kept.andThen(x -> {
            x.undo();
            x.undo();
            x.undo();
            x.undo();
            C.due("another BAN", x.count(0), 4);
            x.sends(1);
            x.flips(1);
        });
        BannedRows x = Deep.made(moved).get();
        C.due("back(0)", x.back(0), 2);
        int[] want = {5, 2, 3, 4, 10, 1, 1, NONE, 2, 1, 0, 0, 0};
        for (int what = 0; what <= 12; what++) {
            C.due("count(" + what + ")", x.count(what), want[what]);
        }
        C.due("word(0, 0)", x.word(0, 0), 12);
        C.due("word(0, 1)", x.word(0, 1), 7);
        C.due("word(1, 1)", x.word(1, 1), 0);
        C.due("arc(3, 3, 0)", x.arc(3, 3, 0), 3);
        x.sends(1);
        C.due("what comes then is not in the IMAGE", x.back(0), 2);
        C.due("keep(0) anew", x.keep(0), 2);
    }

    private static void imagesKeepNothingElse() {
        C.about("nothing else");
        BannedRows x = new BannedRows();
        View.type(x, "c1");
        sees(x, 1, 1);
        x.sends(0);
        x.keep(0);
        x.forget();
        sees(x, 2);
        x.type(';');
        x.sends(1);
        x.keep(1);
        x.back(0);
        C.due("THE TEXT is as it was", x.count(11), 3);
        C.due("what was SEEN is as it was", x.count(10), 1);
        C.due("WHICH", x.which(0), 6);
        C.due("IMAGE 1 is as it was", x.back(1), 2);
        C.due("THE TEXT tells", x.tells(), 3);
    }

    private static void nothingUndoneBehindBack() {
        C.about("(nothing can be UNDONE behind back())");
        BannedRows x = new BannedRows();
        x.sends(0);
        x.sends(1);
        x.keep(0);
        C.due("keep() leaves what can be UNDONE", x.count(12), 2);
        C.due("back(0)", x.back(0), 2);
        C.due("count(12)", x.count(12), 0);
        C.due("undo()", x.undo(), STATE);
        C.due("WORDS", x.count(8), 2);
        x.sends(1);
        C.due("what comes then can", x.undo(), 0);
        C.due("but no more", x.undo(), STATE);
        Consumer<BannedRows> refused = y -> {
            y.sends(0);
            y.sends(1);
        };
        Deep.unchanged(C, "back() that is refused leaves what can be UNDONE", refused, y -> y.back(1), STATE);
    }

    private static void toldImagesGone() {
        C.about("(A text told: what was SEEN, IMAGES are gone.)");
        BannedRows x = new BannedRows();
        sees(x, 1, 0, 1);
        x.keep(0);
        x.keep(1);
        View.type(x, "r1 3;");
        x.tells();
        C.due("SEEN", x.count(10), 0);
        C.due("WHICH is all that is GOOD", x.which(0), 7);
        C.due("back(0)", x.back(0), STATE);
        C.due("back(1)", x.back(1), STATE);
        C.due("undo()", x.undo(), 0);
        C.due("SEEN is not brought again", x.count(10), 0);
        C.due("back(0) neither", x.back(0), STATE);
        C.due("back(1) neither", x.back(1), STATE);
        C.due("forget()", x.forget(), 0);
    }

    private static void faultImagesStay() {
        C.about("-10 less FAULT: nothing changes (THE TEXT stays, too)");
        BannedRows x = new BannedRows();
        sees(x, 1, 0);
        x.sends(1);
        x.keep(1);
        View.type(x, "r1 3;q");
        C.due("tells()", x.tells(), -16);
        C.due("SEEN", x.count(10), 2);
        C.due("THE LINE", x.count(8), 1);
        C.due("THE TEXT", x.count(11), 6);
        C.due("back(1)", x.back(1), 1);
        View.type(x, "4;");
        C.due("told in full", x.tells(), 4);
        C.due("Q", x.count(3), 4);
    }
}
