/** Counts and prints the answers that are not as due. */
final class Checks {
    private static final int MOST_PRINTED = 40;
    private int asked;
    private int wrong;
    private String under = "";

    void under(String name) {
        under = name;
    }

    void due(String call, long got, long want) {
        asked++;
        if (got != want) {
            fail(call + " answered " + got + ", due is " + want);
        }
    }

    void holds(String what, boolean so) {
        asked++;
        if (!so) {
            fail(what);
        }
    }

    private void fail(String what) {
        wrong++;
        if (wrong <= MOST_PRINTED) {
            System.out.println(under + ": " + what);
        }
    }

    int wrong() {
        return wrong;
    }

    void end() {
        System.out.println(wrong + " of " + asked + " checks are not as due");
        if (wrong != 0) {
            System.exit(1);
        }
    }
}
