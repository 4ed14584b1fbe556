/** Counts the answers that are not as due, for one test program. */
final class Check {
    private static final int MOST_PRINTED = 20;

    private final String test;
    private String sentence = "";
    private int wrong = 0;
    private int looked = 0;

    Check(String test) {
        this.test = test;
    }

    /** What is looked at from here on is due by this sentence of the document. */
    void says(String quoted) {
        sentence = " [" + quoted + "]";
    }

    void due(String what, long got, long want) {
        looked++;
        if (got == want) {
            return;
        }
        wrong++;
        if (wrong <= MOST_PRINTED) {
            System.out.println(test + sentence + ": " + what + " answered " + got + ", due is " + want);
        }
    }

    void due(String what, boolean got, boolean want) {
        due(what, got ? 1 : 0, want ? 1 : 0);
    }

    boolean clean() {
        return wrong == 0;
    }

    /** Ends the program with 1 if anything was wrong, or if nothing was looked at. */
    void end() {
        if (wrong != 0 || looked == 0) {
            System.out.println(test + ": " + wrong + " of " + looked + " answers are not as due");
            System.exit(1);
        }
    }
}
