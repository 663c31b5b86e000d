/**
 * A CommonsTurns whose calls are counted and noted: nothing is promised beyond the 512th, so no
 * test may ask more, and a wrong answer is told with the calls that led to it.
 */
final class Noted {
    static final int MOST_CALLS = 512;
    private static final int MOST_TOLD = 400;
    private static Noted latest;

    private final CommonsTurns commons = new CommonsTurns();
    private final StringBuilder run = new StringBuilder();
    private int calls;

    /** The latest calls of the object that was asked last. */
    static String latestRun() {
        if (latest == null) {
            return "";
        }
        int length = latest.run.length();
        return length <= MOST_TOLD ? latest.run.toString() : ".." + latest.run.substring(length - MOST_TOLD);
    }

    int calls() {
        return calls;
    }

    private CommonsTurns note(String name, int... arguments) {
        calls++;
        if (calls > MOST_CALLS) {
            throw new IllegalStateException("a test asks more than " + MOST_CALLS + " calls: " + latestRun());
        }
        latest = this;
        run.append(' ').append(name).append('(');
        for (int k = 0; k < arguments.length; k++) {
            run.append(k == 0 ? "" : ", ").append(arguments[k]);
        }
        run.append(')');
        return commons;
    }

    int member(int worth) {
        return note("member", worth).member(worth);
    }

    int use(int member, int units) {
        return note("use", member, units).use(member, units);
    }

    int close() {
        return note("close").close();
    }

    int pay(int member, int coins) {
        return note("pay", member, coins).pay(member, coins);
    }

    int repair(int points) {
        return note("repair", points).repair(points);
    }

    int set(int what, int value) {
        return note("set", what, value).set(what, value);
    }

    int memberOf(int member, int what) {
        return note("memberOf", member, what).memberOf(member, what);
    }

    int count(int what) {
        return note("count", what).count(what);
    }

    int seasonOf(int index, int what) {
        return note("seasonOf", index, what).seasonOf(index, what);
    }

    int gain(int member, int units) {
        return note("gain", member, units).gain(member, units);
    }

    int bestUse(int member) {
        return note("bestUse", member).bestUse(member);
    }

    int calm(int member) {
        return note("calm", member).calm(member);
    }

    int bestForAll(int what) {
        return note("bestForAll", what).bestForAll(what);
    }

    int wouldExclude() {
        return note("wouldExclude").wouldExclude();
    }

    int canRepair() {
        return note("canRepair").canRepair();
    }

    int undo() {
        return note("undo").undo();
    }

    int type(int character) {
        return note("type", character).type(character);
    }

    int clearText() {
        return note("clearText").clearText();
    }

    int fault(int what) {
        return note("fault", what).fault(what);
    }

    int play() {
        return note("play").play();
    }
}
