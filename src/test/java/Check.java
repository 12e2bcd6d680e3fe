/** What the tests have in common: compare, count, tell, end. */
final class Check {
    private final String test;
    private int checked = 0;
    private int wrong = 0;
    private String sentence = "";

    Check(String test) {
        this.test = test;
    }

    /** The document's sentence that the answers from here on are due by. */
    void about(String words) {
        sentence = " [" + words + "]";
    }

    void due(String what, long got, long want) {
        checked++;
        if (got != want) {
            wrong++;
            System.out.println(test + sentence + ": " + what + " answered " + got + ", due is " + want);
        }
    }

    void same(String what, String got, String want) {
        checked++;
        if (!got.equals(want)) {
            wrong++;
            System.out.println(test + sentence + ": " + what + " is " + got + ", due is " + want);
        }
    }

    void holds(String what, boolean isSo) {
        due(what, isSo ? 1 : 0, 1);
    }

    boolean hasWrong() {
        return wrong > 0;
    }

    void end() {
        System.out.println(test + ": " + checked + " answers, " + wrong + " not as due");
        if (wrong > 0) {
            System.exit(1);
        }
    }
}
