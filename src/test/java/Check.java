import java.util.function.IntSupplier;

/** What the tests have in common: compare, count, tell, end. */
final class Check {
    private final String test;
    private int checked = 0;
    private int wrong = 0;

    Check(String test) {
        this.test = test;
    }

    void due(String what, long got, long want) {
        checked++;
        if (got != want) {
            wrong++;
            System.out.println(test + ": " + what + " answered " + got + ", due is " + want);
        }
    }

    void holds(String what, boolean isSo) {
        due(what, isSo ? 1 : 0, 1);
    }

    /** A call that must be refused and leave all that can be seen as it is. */
    void refused(BannedRows x, String what, IntSupplier call, int want) {
        String before = View.of(x);
        due(what, call.getAsInt(), want);
        String after = View.of(x);
        holds(what + " changes nothing", before.equals(after));
    }

    /** A call that answers and leaves all that can be seen as it is. */
    void pure(BannedRows x, String what, IntSupplier call, int want) {
        refused(x, what, call, want);
    }

    boolean hasWrong() {
        return wrong > 0;
    }

    void end() {
        System.out.println(test + ": " + checked + " answers, " + wrong + " not as due");
        if (wrong > 0) {
            System.exit(1);
        }
    }
}
