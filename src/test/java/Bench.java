/** What the tests of the promises share: checks, and short ways to bring a commons to a state. */
abstract class Bench {
    static final int INVALID = CommonsTurns.INVALID_ARGUMENT;
    static final int NOT_POSSIBLE = CommonsTurns.NOT_POSSIBLE;
    static final int LIMIT = CommonsTurns.LIMIT_REACHED;
    static final int NOT_FOUND = CommonsTurns.NOT_FOUND;
    static final int LEAST = Integer.MIN_VALUE;
    static final int MOST = Integer.MAX_VALUE;
    static final Checks checks = new Checks();

    /** The sentence of the document that the next checks are for. */
    static void sentence(String where, String words) {
        checks.under(where + ", \"" + words + "\"");
    }

    /** The answer of the call that was made last. */
    static void due(int got, int want) {
        checks.due(Noted.latestRun(), got, want);
    }

    static void due(String call, int got, int want) {
        checks.due(call, got, want);
    }

    static Noted commons(int... worths) {
        Noted x = new Noted();
        for (int worth : worths) {
            x.member(worth);
        }
        return x;
    }

    /** So many members, who have the worth 1. */
    static Noted commonsOf(int members) {
        Noted x = new Noted();
        for (int m = 0; m < members; m++) {
            x.member(1);
        }
        return x;
    }

    /** Settings from 0 on, in their order. */
    static void settings(Noted x, int... values) {
        for (int what = 0; what < values.length; what++) {
            x.set(what, values[what]);
        }
    }

    /** Uses of the members from 0 on. */
    static void uses(Noted x, int... units) {
        for (int m = 0; m < units.length; m++) {
            x.use(m, units[m]);
        }
    }

    static void closes(Noted x, int seasons) {
        for (int k = 0; k < seasons; k++) {
            x.close();
        }
    }

    static void type(Noted x, String signs) {
        for (int k = 0; k < signs.length(); k++) {
            x.type(signs.charAt(k));
        }
    }

    /** The text, instead of the one that was there. */
    static void text(Noted x, String signs) {
        x.clearText();
        type(x, signs);
    }

    /** Something of the members from 0 on. */
    static void members(Noted x, int what, int... wanted) {
        for (int m = 0; m < wanted.length; m++) {
            due(x.memberOf(m, what), wanted[m]);
        }
    }

    static void counts(Noted x, int from, int... wanted) {
        for (int k = 0; k < wanted.length; k++) {
            due(x.count(from + k), wanted[k]);
        }
    }

    /** Three members; the damage 64 of the uses 2, 3, 3 leaves a health of 36 behind the first season. */
    static Noted atLevel(int level, int mostOwed) {
        Noted x = commons(1, 1, 1);
        settings(x, 1, level, 0, mostOwed);
        uses(x, 2, 3, 3);
        x.close();
        return x;
    }

    /** So many seasons ended without any use, by a single member and as few calls as can be. */
    static Noted afterSeasons(int seasons) {
        Noted x = commons(1);
        type(x, "c;c;c;c;c;c;c;c;c;c;c;c;c;c;c;c;c;c;c;c;c;c;c;c;c;c;c;c;c;c;");
        for (int k = 0; k < seasons / 30; k++) {
            x.play();
        }
        closes(x, seasons % 30);
        x.clearText();
        return x;
    }
}
