/** Counts and prints the answers that are not as due; each test ends by {@link #end()}. */
final class Check {
    private static final int PRINTED_AT_MOST = 40;
    private int wrong = 0;
    private int asked = 0;

    void due(String what, long got, long want) {
        asked++;
        if (got != want) {
            fail(what + " answered " + got + ", due is " + want);
        }
    }

    void due(String what, boolean got, boolean want) {
        asked++;
        if (got != want) {
            fail(what + " answered " + got + ", due is " + want);
        }
    }

    void due(String what, String got, String want) {
        asked++;
        if (!got.equals(want)) {
            fail(what + " answered " + got + ", due is " + want);
        }
    }

    void fail(String text) {
        wrong++;
        if (wrong <= PRINTED_AT_MOST) {
            System.out.println(text);
        }
    }

    /** A test that asked nothing is no good one. */
    boolean isGood() {
        return wrong == 0 && asked > 0;
    }

    void end() {
        System.out.println(asked + " answers, " + wrong + " not as due");
        if (!isGood()) {
            System.exit(1);
        }
    }
}
