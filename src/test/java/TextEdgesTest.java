/** Part 1 of the document's terms, sentence by sentence: the bounds of bans and of the text that tells them. */
public final class TextEdgesTest {
    private static final int BAD = -1, FULL = -3, NONE = -9;
    private static final Check C = new Check("TextEdgesTest");

    public static void main(String[] args) {
        runsBounds();
        runsSteps();
        chargeBounds();
        chargeSteps();
        wordBounds();
        wordSteps();
        wordNeverWhole();
        rateBounds();
        atFirst();
        sixtyLetters();
        blanks();
        endedBySemicolon();
        firstTheBan();
        onceAtMost();
        notTold();
        everyLetterAtTheStart();
        everyLetterWhereANumberIsDue();
        everyLetterWhereAnEndIsDue();
        everyLetterBehindTheBan();
        zeroAhead();
        lengthOfF();
        notAsTold();
        otherLetters();
        firstFaultCounts();
        endsTooEarly();
        C.end();
    }

    private static int tells(String text) {
        BannedRows x = new BannedRows();
        View.type(x, text);
        return x.tells();
    }

    private static void sound(String text, int states) {
        BannedRows x = new BannedRows();
        View.type(x, text);
        C.due("\"" + text + "\" tells", x.tells(), states);
        C.due("\"" + text + "\": STATES", x.count(0), states);
        C.due("\"" + text + "\" is empty then", x.count(11), 0);
    }

    /** The FAULT's place, and that nothing changes by it, THE TEXT and the IMAGES neither. */
    private static void fault(String text, int place) {
        Deep.unchanged(C, "\"" + text + "\" tells", x -> {
            x.sends(1);
            x.keep(1);
            x.sees(2);
            x.flips(0);
            View.type(x, text);
        }, BannedRows::tells, -10 - place);
    }

    private static void runsBounds() {
        C.about("RUNS with D (0 to 3), K (D to 5, 1 at least)");
        for (int d = 0; d <= 9; d++) {
            for (int k = 0; k <= 9; k++) {
                boolean isFit = k >= d && k >= 1 && k <= 5;
                int want = d > 3 ? -11 : isFit ? k + 1 : -13;
                C.due("r" + d + " " + k, tells("r" + d + " " + k + ";"), want);
            }
        }
        sound("r0 1;", 2);
        sound("r3 3;", 4);
        sound("r3 5;", 6);
        fault("r0 0;", 3);
        fault("r3 2;", 3);
        fault("r3 6;", 3);
        fault("r4 5;", 1);
    }

    private static void runsSteps() {
        for (int d = 0; d <= 3; d++) {
            for (int k = Math.max(d, 1); k <= 5; k++) {
                BannedRows x = View.told("r" + d + " " + k + ";");
                String ban = "r" + d + " " + k;
                C.about("STATES 0 to K");
                C.due(ban + ": step(-1, 0)", x.step(-1, 0), BAD);
                C.due(ban + ": step(K + 1, 0)", x.step(k + 1, 0), BAD);
                for (int i = 0; i <= k; i++) {
                    C.about("a bit 0 leads to i and 1, if i is below K");
                    C.due(ban + ": step(" + i + ", 0)", x.step(i, 0), i < k ? i + 1 : NONE);
                    C.about("a bit 1 to STATE 0, if i is D or more");
                    C.due(ban + ": step(" + i + ", 1)", x.step(i, 1), i >= d ? 0 : NONE);
                }
                C.about("the START is 0");
                C.due(ban + ": START", x.count(1), 0);
            }
        }
    }

    private static void chargeBounds() {
        C.about("CHARGE with C (1 to 3): STATES 0 to 2 C");
        for (int c = 0; c <= 9; c++) {
            C.due("c" + c, tells("c" + c + ";"), c >= 1 && c <= 3 ? 2 * c + 1 : -11);
        }
        sound("c1;", 3);
        sound("c3;", 7);
        fault("c0;", 1);
        fault("c4;", 1);
    }

    private static void chargeSteps() {
        C.about("a bit 1 leads to one more, a bit 0 to one less, if there is such a STATE; the START is C");
        for (int c = 1; c <= 3; c++) {
            BannedRows x = View.told("c" + c + ";");
            C.due("c" + c + ": START", x.count(1), c);
            C.due("c" + c + ": step(-1, 1)", x.step(-1, 1), BAD);
            C.due("c" + c + ": step(2 C + 1, 0)", x.step(2 * c + 1, 0), BAD);
            for (int i = 0; i <= 2 * c; i++) {
                C.due("c" + c + ": step(" + i + ", 1)", x.step(i, 1), i < 2 * c ? i + 1 : NONE);
                C.due("c" + c + ": step(" + i + ", 0)", x.step(i, 0), i > 0 ? i - 1 : NONE);
            }
        }
    }

    private static void wordBounds() {
        C.about("WORD with 2 to 5 bits (F): STATES 0 to one less than how many");
        for (int length = 1; length <= 8; length++) {
            boolean isFit = length >= 2 && length <= 5;
            C.due("F of " + length, tells("b" + "1".repeat(length) + ";"), isFit ? length : -11);
            C.due("F of " + length, tells("b" + "0".repeat(length) + ";"), isFit ? length : -11);
        }
        sound("b01;", 2);
        sound("b01101;", 5);
        fault("b1;", 1);
        fault("b011010;", 1);
        BannedRows x = View.told("b01101;");
        C.due("step(4, 0)", x.step(4, 0), 1);
        C.due("step(5, 0)", x.step(5, 0), BAD);
        C.due("step(-1, 0)", x.step(-1, 0), BAD);
    }

    /** Of each STATE where a bit 0 and where a bit 1 leads. */
    private static void steps(String ban, int... want) {
        BannedRows x = View.told(ban + ";");
        C.due(ban + ": STATES", x.count(0), want.length / 2);
        C.due(ban + ": START", x.count(1), 0);
        for (int i = 0; i < want.length; i++) {
            C.due(ban + ": step(" + i / 2 + ", " + i % 2 + ")", x.step(i / 2, i % 2), want[i]);
        }
    }

    private static void wordSteps() {
        C.about("in STATE i the latest bits are the first i ones of F, and i is as great as can be");
        steps("b11", 0, 1, 0, NONE);
        steps("b10", 0, 1, NONE, 1);
        steps("b00", 1, 0, NONE, 0);
        steps("b111", 0, 1, 0, 2, 0, NONE);
        steps("b0010", 1, 0, 2, 0, 2, 3, NONE, 0);
        steps("b10101", 0, 1, 2, 1, 0, 3, 4, 1, 0, NONE);
        steps("b01010", 1, 0, 1, 2, 3, 0, 1, 4, NONE, 0);
        steps("b11011", 0, 1, 0, 2, 3, 2, 0, 4, 0, NONE);
        steps("b01011", 1, 0, 1, 2, 3, 0, 1, 4, 3, NONE);
    }

    private static void wordNeverWhole() {
        C.about("but never may all of F have come");
        for (int length = 2; length <= 5; length++) {
            for (int bits = 0; bits < 1 << length; bits++) {
                String f = Integer.toBinaryString(1 << length | bits).substring(1);
                BannedRows x = View.told("b" + f + ";");
                for (int i = 0; i < length; i++) {
                    int next = f.charAt(i) - '0';
                    C.due("b" + f + ": on along F", x.step(i, next), i == length - 1 ? NONE : i + 1);
                    C.holds("b" + f + ": the other bit leads", x.step(i, 1 - next) != NONE);
                }
            }
        }
    }

    private static void rateBounds() {
        C.about("P (1 to 3; 1 at first), Q (1 to 4; 2 at first)");
        for (int n = 0; n <= 9; n++) {
            BannedRows x = View.told("c1;p" + n + ";");
            C.due("P", x.count(2), n >= 1 && n <= 3 ? n : 1);
            C.due("p" + n, tells("c1;p" + n + ";"), n >= 1 && n <= 3 ? 3 : -14);
            BannedRows y = View.told("c1;q" + n + ";");
            C.due("Q", y.count(3), n >= 1 && n <= 4 ? n : 2);
            C.due("q" + n, tells("c1;q" + n + ";"), n >= 1 && n <= 4 ? 3 : -14);
        }
        fault("c1;p0;", 4);
        fault("c1;p4;", 4);
        fault("c1;q0;", 4);
        fault("c1;q5;", 4);
    }

    private static void atFirst() {
        C.about("At first: RUNS with D 1, K 3");
        BannedRows x = new BannedRows();
        C.due("STATES", x.count(0), 4);
        C.due("D is 1: step(0, 1)", x.step(0, 1), NONE);
        C.due("D is 1: step(1, 1)", x.step(1, 1), 0);
        C.due("K is 3: step(2, 0)", x.step(2, 0), 3);
        C.due("K is 3: step(3, 0)", x.step(3, 0), NONE);
        C.due("P", x.count(2), 1);
        C.due("Q", x.count(3), 2);
        C.same("as if told so, but that nothing can be UNDONE", View.of(x).replaceFirst("0 \\|", "1 |"),
                View.of(View.told("r1 3;p1;q2;")));
    }

    private static void sixtyLetters() {
        C.about("(60 letters at most)");
        String blanks = " ".repeat(57);
        BannedRows x = new BannedRows();
        View.type(x, blanks + "c1");
        C.due("letter 60", x.type(';'), 60);
        C.due("60 letters tell", x.tells(), 3);
        BannedRows y = new BannedRows();
        View.type(y, blanks + " c1");
        C.due("letter 61", y.type(';'), FULL);
        C.due("it has not come", y.tells(), -10 - 60);
        C.due("THE TEXT stays full", y.count(11), 60);
        C.due("clear() of all", y.clear(), 60);
        View.type(y, "c1;");
        C.due("there is room again", y.tells(), 3);
        sound("c1;" + blanks, 3);
    }

    private static void blanks() {
        C.about("blanks (32), any number, ahead of, between, behind TOKENS (needed only between two rows of figures)");
        sound("r1 3;p3;q4;", 4);
        sound("  r  1   3  ;  p  3  ;  q  4  ;  ", 4);
        sound("b01;q1;p2;", 2);
        sound(" b 01 ; q 1 ; p 2 ; ", 2);
        sound(" ".repeat(28) + "c1;" + " ".repeat(29), 3);
        fault("r13;", 1);
        fault("b0 1;", 1);
        fault("b01 01;", 4);
        fault("c1;p1 1;", 6);
    }

    private static void endedBySemicolon() {
        C.about("ITEMS, each ended by ;");
        fault("c1", 2);
        fault("c1 p1;", 3);
        fault("c1p1;", 2);
        fault("c1;p1q2;", 5);
        fault("c1;p1", 5);
        fault("r1 3", 4);
        fault("r1 3 3;", 5);
        fault("b01", 3);
        fault("c1;;", 3);
        fault("c1;p1;;", 6);
    }

    private static void firstTheBan() {
        C.about("first one of: r D K, or c C, or b F");
        fault(";", 0);
        fault("p1;", 0);
        fault("q2;c1;", 0);
        fault("1;", 0);
        fault("c1;c1;", 3);
        fault("c1;r1 3;", 3);
        fault("c1;b01;", 3);
        fault("c1;p1;c1;", 6);
        fault("r;", 1);
        fault("r1;", 2);
        fault("rc", 1);
        fault("c;", 1);
        fault("b;", 1);
    }

    private static void onceAtMost() {
        C.about("then, each once at most, in whatever order: p P, q Q");
        String[] sound = {"", "p3;", "q4;", "p3;q4;", "q4;p3;"};
        for (String rate : sound) {
            BannedRows x = View.told("c1;" + rate);
            C.due("c1;" + rate + ": P", x.count(2), rate.contains("p") ? 3 : 1);
            C.due("c1;" + rate + ": Q", x.count(3), rate.contains("q") ? 4 : 2);
            C.due("c1;" + rate + " told", x.count(12), 1);
        }
        fault("c1;p1;p1;", 6);
        fault("c1;p1;p", 6);
        fault("c1;q2;q2;", 6);
        fault("c1;p1;q2;p1;", 9);
        fault("c1;q2;p1;q2;", 9);
        fault("c1;p;", 4);
        fault("c1;q;", 4);
        fault("c1;pq", 4);
    }

    private static void notTold() {
        C.about("(what is not told is as at first)");
        BannedRows x = View.told("r1 3;p3;q4;");
        View.type(x, "r1 3;");
        x.tells();
        C.due("P is not as it was", x.count(2), 1);
        C.due("Q is not as it was", x.count(3), 2);
        View.type(x, "c2;q4;");
        x.tells();
        View.type(x, "c2;p2;");
        x.tells();
        C.due("P as told", x.count(2), 2);
        C.due("Q is not as it was", x.count(3), 2);
    }

    private static void everyLetterAtTheStart() {
        C.about("TOKENS are the letters r, c, b, p, q, rows of figures, and ; .");
        for (int letter = 0; letter <= 255; letter++) {
            boolean canStand = " rcb".indexOf(letter) >= 0;
            C.due("letter " + letter + " at the start", tells("" + (char) letter), canStand ? -11 : -10);
        }
    }

    private static void everyLetterWhereANumberIsDue() {
        C.about("the place of the first letter of the first TOKEN that can't stand there");
        for (int letter = 0; letter <= 255; letter++) {
            String sign = "" + (char) letter;
            C.due("D: letter " + letter, tells("r" + sign), " 0123".contains(sign) ? -12 : -11);
            C.due("K: letter " + letter, tells("r3 " + sign), " 345".contains(sign) ? -14 : -13);
            C.due("C: letter " + letter, tells("c" + sign), " 123".contains(sign) ? -12 : -11);
            C.due("F: letter " + letter, tells("b" + sign), sign.equals(" ") ? -12 : -11);
            C.due("F: second letter " + letter, tells("b1" + sign), "01".contains(sign) ? -13 : -11);
            C.due("P: letter " + letter, tells("c1;p" + sign), " 123".contains(sign) ? -15 : -14);
            C.due("Q: letter " + letter, tells("c1;q" + sign), " 1234".contains(sign) ? -15 : -14);
        }
    }

    private static void everyLetterWhereAnEndIsDue() {
        C.about("ITEMS, each ended by ;");
        for (int letter = 0; letter <= 255; letter++) {
            int want = letter == ';' ? 3 : letter == ' ' ? -13 : letter >= '0' && letter <= '9' ? -11 : -12;
            C.due("behind c1: letter " + letter, tells("c1" + (char) letter), want);
            int behindBlank = letter == ';' ? 3 : letter == ' ' ? -14 : -13;
            C.due("behind c1 and a blank: letter " + letter, tells("c1 " + (char) letter), behindBlank);
        }
    }

    private static void everyLetterBehindTheBan() {
        C.about("of any other letter (each is a TOKEN by itself, that can stand nowhere), its own");
        for (int letter = 0; letter <= 255; letter++) {
            int want = letter == ' ' ? 3 : letter == 'p' || letter == 'q' ? -14 : -13;
            C.due("behind c1;: letter " + letter, tells("c1;" + (char) letter), want);
        }
    }

    private static void zeroAhead() {
        C.about("(a row of figures with 0 ahead of others, but as F");
        fault("r00 1;", 1);
        fault("r01 3;", 1);
        fault("r0 01;", 3);
        fault("r1 003;", 3);
        fault("c01;", 1);
        fault("c1;p01;", 4);
        fault("c1;q02;", 4);
        sound("b00;", 2);
        sound("b01;", 2);
        sound("b00001;", 5);
        sound("b00000;", 5);
    }

    private static void lengthOfF() {
        C.about("of other length than F may have");
        fault("b0;", 1);
        fault("b 1 ;", 2);
        fault("b000000;", 1);
        fault("b111111;", 1);
        fault("b" + "01".repeat(29) + ";", 1);
        fault("r10 11;", 1);
        fault("r1 33;", 3);
        fault("c11;", 1);
        fault("c1;p11;", 4);
        fault("c1;q22;", 4);
        fault("c4294967297;", 1);
        fault("c18446744073709551617;", 1);
    }

    private static void notAsTold() {
        C.about("or that is not as told, too)");
        fault("b02;", 1);
        fault("b20;", 1);
        fault("b01012;", 1);
        fault("b99;", 1);
        fault("r9 9;", 1);
        fault("r1 9;", 3);
        fault("c9;", 1);
    }

    private static void otherLetters() {
        C.about("of any other letter (each is a TOKEN by itself, that can stand nowhere), its own");
        fault("x", 0);
        fault("R1 3;", 0);
        fault("c1x;", 2);
        fault("r1,3;", 2);
        fault("r-1 3;", 1);
        fault("b01x1;", 3);
        fault("c1;xx", 3);
        fault("c1;p1;x", 6);
        fault("c1;P1;", 3);
        fault("c\t1;", 1);
        fault("c1;\n", 3);
        fault("c1;" + (char) 0, 3);
        fault("c1;" + (char) 160, 3);
        fault("c" + (char) 185 + ";", 1);
        fault("c1;" + (char) 255, 3);
    }

    private static void firstFaultCounts() {
        C.about("the first TOKEN that can't stand there");
        fault("b0x1;", 1);
        fault("r4 0;x", 1);
        fault("r1 0;x", 3);
        fault("c1;p9;q9;", 4);
        fault("c1 x", 3);
        fault("   x  y", 3);
    }

    private static void endsTooEarly() {
        C.about("the text's length, if it ends too early (one that is empty, too)");
        String[] early = {"", " ", "   ", "r", "r ", "r1", "r1 ", "r1 3", "r1 3 ", "c", "c ", "c1", "c1  ", "b", "b01",
            "b01 ", "c1;p", "c1;p ", "c1;p1", "c1;q", "c1;q1", "c1;q1;p", "c1;q1;p2 ", " ".repeat(60)};
        for (String text : early) {
            fault(text, text.length());
        }
        BannedRows x = new BannedRows();
        View.type(x, "c11;");
        x.clear();
        View.type(x, "c1");
        C.due("letters that are gone are not read", x.tells(), -12);
        View.type(x, ";");
        C.due("nor those told", x.tells(), 3);
        View.type(x, "r1");
        C.due("the rest of c1; is gone", x.tells(), -12);
    }
}
