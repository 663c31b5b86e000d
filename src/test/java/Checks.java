/** Counts the answers that are not as due, and prints the first few of each sentence. */
final class Checks {
    private static final int MOST_PRINTED = 3;
    private int asked;
    private int askedBefore;
    private int wrong;
    private int wrongBefore;
    private String under = "";

    /** What the next checks are about; what was named before must have had one. */
    void under(String name) {
        if (!under.isEmpty() && asked == askedBefore) {
            fail("nothing was checked");
        }
        askedBefore = asked;
        wrongBefore = wrong;
        under = name;
    }

    void due(String call, long got, long want) {
        asked++;
        if (got != want) {
            fail(call + " answered " + got + ", due is " + want);
        }
    }

    void holds(String what, boolean so) {
        asked++;
        if (!so) {
            fail(what);
        }
    }

    private void fail(String what) {
        wrong++;
        if (wrong - wrongBefore <= MOST_PRINTED) {
            System.out.println(under + ": " + what);
        }
    }

    int wrong() {
        return wrong;
    }

    void end() {
        under("");
        System.out.println(wrong + " of " + asked + " checks are not as due");
        if (wrong != 0) {
            System.exit(1);
        }
    }
}
