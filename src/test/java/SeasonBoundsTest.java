/** The boundaries of a season's end, of those who are excluded and of the seasons kept: promises 4, 10 and 15. */
public final class SeasonBoundsTest extends Bench {
    public static void main(String[] args) {
        noMember();
        lastSeason();
        damageOfNothing();
        chargesAreOwedBesides();
        healthFalls();
        healthGrows();
        fallsThenGrows();
        usesAreBooked();
        nextSeason();
        belowTheLevel();
        levelBehindTheGrowth();
        howMany();
        allButOne();
        notThoseOutInTurn();
        notThoseOutByDebts();
        greatestUseSinceTheTurn();
        lowerNumbersFirst();
        useSinceIsZero();
        notSoMany();
        moreThanMayBeOwed();
        debtsOfThisSeason();
        debtorsAgain();
        nobodyBut();
        settingsInForce();
        seasonsKept();
        seasonEdges();
        seasonNumbers();
        seasonsAndUndo();
        wouldExcludeNobody();
        wouldExcludeAsClose();
        wouldExcludeInTheLastSeason();
        checks.end();
    }

    private static void noMember() {
        sentence("promise 4", "NOT_POSSIBLE if there is no member");
        Noted x = new Noted();
        due(x.close(), NOT_POSSIBLE);
        due(x.count(1), 0);
        x.member(0);
        due(x.close(), 0);
        due(x.count(1), 1);
        x.undo();
        x.undo();
        due(x.close(), NOT_POSSIBLE);
    }

    private static void lastSeason() {
        sentence("promise 4", "LIMIT_REACHED if 999 seasons have ended");
        Noted x = afterSeasons(997);
        due(x.count(1), 997);
        x.use(0, 20);
        due(x.close(), 10);
        x.use(0, 20);
        due(x.close(), 10);
        due(x.count(1), 999);
        due(x.close(), LIMIT);
        due(x.use(0, 20), 10);
        due(x.close(), LIMIT);
        due(x.count(1), 999);
        due(x.memberOf(0, 1), 20);
        due(x.memberOf(0, 3), 20);
        sentence("promise 4", "999 as things are: one less behind an undo");
        due(x.undo(), 3);
        due(x.undo(), 2);
        due(x.count(1), 998);
        due(x.close(), 10);
        due(x.close(), LIMIT);
    }

    private static void damageOfNothing() {
        sentence("promise 4", "Returns the damage");
        Noted x = commonsOf(8);
        settings(x, 1, 0, 50, 999);
        due(x.close(), 0);
        x.use(7, 1);
        due(x.close(), 1);
        uses(x, 20, 20, 20, 20, 20, 20, 20, 20);
        due(x.close(), 25600);
        due(x.count(2), 50);
        due(x.close(), 0);
    }

    private static void chargesAreOwedBesides() {
        sentence("terms", "1. Each member owes the charge besides what was owed.");
        Noted x = commonsOf(2);
        settings(x, 1, 0, 50, 999);
        uses(x, 2, 1);
        x.close();
        members(x, 3, 4, 5);
        uses(x, 2, 1);
        x.close();
        members(x, 3, 4 + 8, 5 + 1);
        x.pay(0, 12);
        x.close();
        members(x, 3, 0, 6);
        x.use(0, 1);
        x.close();
        members(x, 3, 1, 6);
    }

    private static void healthFallsTo(int divisor, int[] units, int health, int unmet) {
        Noted x = commonsOf(8);
        settings(x, divisor, 0, 0, 999);
        uses(x, units);
        x.close();
        due(x.count(2), health);
        due(x.count(9), unmet);
    }

    private static void healthFalls() {
        sentence("terms", "2. The health (0 to 100; 100 at first) falls by the damage, but not below 0.");
        healthFallsTo(1, new int[] {0}, 100, 0);
        healthFallsTo(1, new int[] {1}, 99, 0);
        healthFallsTo(41, new int[] {16, 16, 16, 16}, 1, 0);
        healthFallsTo(1, new int[] {10}, 0, 0);
        healthFallsTo(20, new int[] {20, 20, 5}, 0, 1);
        healthFallsTo(1, new int[] {20}, 0, 300);
        sentence("promise 9", "9: damage that found no health any more");
        Noted x = commons(1);
        settings(x, 1, 0, 0, 999);
        x.use(0, 9);
        x.close();
        counts(x, 8, 81, 0);
        x.use(0, 4);
        x.close();
        due(x.count(2), 3);
        x.use(0, 2);
        x.close();
        due(x.count(2), 0);
        counts(x, 8, 81 + 16 + 4, 1);
        x.use(0, 1);
        x.close();
        counts(x, 8, 81 + 16 + 4 + 1, 2);
        due(x.count(2), 0);
    }

    private static int grownFrom90(int growth) {
        Noted x = commons(1);
        settings(x, 40, 0, growth);
        x.use(0, 20);
        x.close();
        return x.count(2);
    }

    private static void healthGrows() {
        sentence("terms", "3. It grows by setting 2, but not above 100.");
        due("growth 0", grownFrom90(0), 90);
        due("growth 1", grownFrom90(1), 91);
        due("growth 9", grownFrom90(9), 99);
        due("growth 10", grownFrom90(10), 100);
        due("growth 11", grownFrom90(11), 100);
        due("growth 50", grownFrom90(50), 100);
        Noted x = commons(1);
        x.close();
        due(x.count(2), 100);
    }

    private static void fallsThenGrows() {
        sentence("terms", "it falls by the damage first and grows then");
        Noted x = commons(1);
        settings(x, 1, 0, 50, 999);
        x.use(0, 20);
        x.close();
        due(x.count(2), 50);
        due(x.count(9), 300);
        x.use(0, 8);
        x.close();
        due(x.count(2), 50);
        due(x.count(9), 314);
        x.use(0, 1);
        x.close();
        due(x.count(2), 99);
        x.use(0, 1);
        x.close();
        due(x.count(2), 100);
        x.use(0, 7);
        x.close();
        due(x.count(2), 100);
        x.use(0, 7);
        x.close();
        due(x.count(2), 100);
    }

    private static void usesAreBooked() {
        sentence("terms", "4. The uses are added to the members' uses so far, and to those since; then they are 0.");
        Noted x = commonsOf(2);
        settings(x, 200, 0, 50, 999);
        uses(x, 20, 0);
        members(x, 5, 0, 0);
        members(x, 6, 0, 0);
        x.close();
        members(x, 5, 20, 0);
        members(x, 6, 20, 0);
        members(x, 1, 0, 0);
        uses(x, 1, 7);
        members(x, 5, 20, 0);
        members(x, 6, 20, 0);
        x.close();
        members(x, 5, 21, 7);
        members(x, 6, 21, 7);
        members(x, 1, 0, 0);
        x.close();
        members(x, 5, 21, 7);
    }

    private static void nextSeason() {
        sentence("terms", "5. The next season begins.");
        Noted x = commonsOf(1);
        for (int season = 0; season < 9; season++) {
            due(x.count(1), season);
            x.close();
        }
        due(x.count(1), 9);
    }

    private static void belowTheLevel() {
        sentence("terms", "if the health is below setting 1");
        due("health 36, setting 35", atLevel(35, 999).count(7), 0);
        due("health 36, setting 36", atLevel(36, 999).count(7), 0);
        due("health 36, setting 37", atLevel(37, 999).count(7), 2);
        due("health 36, setting 0", atLevel(0, 999).count(7), 0);
        Noted full = commonsOf(3);
        full.set(1, 100);
        full.close();
        due(full.count(2), 100);
        due(full.count(7), 0);
        full.set(2, 0);
        full.use(2, 7);
        full.close();
        due(full.count(2), 99);
        due(full.count(7), 4);
        Noted empty = commonsOf(3);
        settings(empty, 1, 0, 0, 999);
        empty.use(0, 10);
        empty.close();
        due(empty.count(2), 0);
        due(empty.count(7), 0);
        Noted one = commonsOf(3);
        settings(one, 1, 1, 0, 999);
        one.use(0, 10);
        one.close();
        due(one.count(7), 1);
    }

    private static void levelBehindTheGrowth() {
        sentence("terms", "the health behind its growth is what counts");
        Noted x = commonsOf(3);
        settings(x, 40, 95, 5);
        x.use(0, 20);
        x.close();
        due(x.count(2), 95);
        due(x.count(7), 0);
        Noted less = commonsOf(3);
        settings(less, 40, 95, 4);
        less.use(0, 20);
        less.close();
        due(less.count(2), 94);
        due(less.count(7), 1);
    }

    /** The damage 99 of the uses 8, 7 .. 1 leaves a health of 1, so the level is 1 more than what is lacking. */
    private static int outOfEight(int lacking) {
        Noted x = commonsOf(8);
        settings(x, 13, 1 + lacking, 0, 999);
        uses(x, 8, 7, 6, 5, 4, 3, 2, 1);
        x.close();
        due(x.count(2), 1);
        return x.count(7);
    }

    private static void howMany() {
        sentence("terms", "as many members as setting 1 less the health, divided by 10, rounded up");
        int[] lacking = {0, 1, 9, 10, 11, 20, 21, 30, 31, 40, 41, 50, 51, 60, 61, 70};
        int[] wanted = {0, 1, 1, 1, 2, 2, 3, 3, 4, 4, 5, 5, 6, 6, 7, 7};
        for (int k = 0; k < lacking.length; k++) {
            due("lacking " + lacking[k], outOfEight(lacking[k]), (1 << wanted[k]) - 1);
        }
    }

    private static void allButOne() {
        sentence("terms", "at most all members but one");
        due("lacking 71", outOfEight(71), 127);
        due("lacking 80", outOfEight(80), 127);
        due("lacking 99", outOfEight(99), 127);
        for (int members = 1; members <= 8; members++) {
            Noted x = commonsOf(members);
            settings(x, 1, 100, 0, 999);
            x.use(0, 10);
            x.close();
            due(x.count(2), 0);
            due(x.count(7), (1 << (members - 1)) - 1);
        }
    }

    private static void notThoseOutInTurn() {
        sentence("terms", "of those who were not excluded (in any way) in the season that ended");
        Noted x = atLevel(46, 999);
        due(x.count(7), 2);
        x.close();
        due(x.count(7), 4);
        x.close();
        due(x.count(7), 1);
        x.close();
        due(x.count(7), 2);
        sentence("terms", "not one who was excluded in turn, though with the greatest use since then");
        Noted two = commonsOf(2);
        settings(two, 1, 37, 0, 999);
        uses(two, 0, 8);
        two.close();
        due(two.count(7), 2);
        two.close();
        due(two.count(7), 1);
        two.use(1, 5);
        two.close();
        due(two.memberOf(1, 6), 0);
        due(two.count(7), 2);
    }

    private static void notThoseOutByDebts() {
        sentence("terms", "(in any way): nor one who was excluded by debts");
        Noted x = atLevel(0, 38);
        due(x.count(7), 4);
        x.pay(2, 39);
        x.set(1, 46);
        x.use(0, 0);
        due(x.memberOf(2, 6), 3);
        x.close();
        due(x.count(7), 2);
        x.close();
        due(x.count(7), 4);
        due(x.memberOf(2, 6), 0);
        sentence("terms", "but one who owed too much, and was not yet excluded");
        Noted both = atLevel(46, 20);
        due(both.count(7), 6);
        due(both.memberOf(1, 6), 0);
    }

    private static void greatestUseSinceTheTurn() {
        sentence("terms", "those with the greatest use since they were excluded in turn last");
        Noted x = commonsOf(3);
        settings(x, 40, 91, 0, 999);
        uses(x, 4, 20, 0);
        x.close();
        due(x.count(2), 86);
        due(x.count(7), 2);
        due(x.memberOf(1, 5), 20);
        x.close();
        due(x.count(7), 1);
        uses(x, 0, 0, 1);
        x.close();
        due(x.count(7), 4);
        uses(x, 2, 1);
        x.close();
        members(x, 5, 6, 21, 1);
        due(x.count(7), 1);
        sentence("terms", "the season that ends is counted in");
        Noted now = commonsOf(3);
        settings(now, 200, 0, 0, 999);
        uses(now, 7, 6, 0);
        now.close();
        now.set(1, 100);
        uses(now, 0, 2, 5);
        now.close();
        due(now.count(2), 100);
        now.set(0, 40);
        uses(now, 0, 2, 5);
        now.close();
        members(now, 5, 7, 10, 10);
        due(now.count(2), 99);
        due(now.count(7), 2);
    }

    private static void lowerNumbersFirst() {
        sentence("terms", "of several the lower numbers first");
        Noted x = commonsOf(4);
        settings(x, 1, 37, 0, 999);
        uses(x, 1, 3, 3, 1);
        x.close();
        due(x.count(2), 36);
        due(x.count(7), 2);
        Noted two = commonsOf(4);
        settings(two, 1, 47, 0, 999);
        uses(two, 2, 1, 2, 3);
        two.close();
        due(two.count(7), 8 + 1);
        Noted none = commonsOf(8);
        settings(none, 1, 99, 0, 999);
        none.use(7, 1);
        none.close();
        due(none.count(7), 0);
        none.set(1, 100);
        due(none.wouldExclude(), 128);
        none.close();
        none.close();
        due(none.count(7), 1);
    }

    private static void useSinceIsZero() {
        sentence("terms", "they are excluded in turn, and their use since then is 0 now");
        Noted x = atLevel(47, 999);
        due(x.count(7), 6);
        members(x, 6, 2, 0, 0);
        members(x, 5, 2, 3, 3);
        sentence("terms", "excluded by debts alone is not in turn: the use since then goes on");
        Noted debts = atLevel(0, 3);
        due(debts.count(7), 7);
        members(debts, 6, 2, 3, 3);
        debts.close();
        members(debts, 6, 2, 3, 3);
        sentence("terms", "in turn and by debts is in turn");
        Noted both = atLevel(46, 20);
        members(both, 6, 2, 0, 3);
    }

    private static void notSoMany() {
        sentence("terms", "(If there are not so many, fewer.)");
        Noted x = atLevel(100, 999);
        due(x.count(7), 6);
        x.close();
        due(x.count(7), 1);
        x.close();
        due(x.count(7), 6);
        sentence("terms", "not so many: none, if all were excluded");
        Noted all = atLevel(100, 0);
        due(all.count(7), 7);
        all.set(3, 999);
        all.close();
        due(all.count(2), 36);
        due(all.count(7), 0);
        all.close();
        due(all.count(7), 1 + 2);
    }

    private static void moreThanMayBeOwed() {
        sentence("terms", "Besides, all who owe more than setting 3 are excluded.");
        due("39 owed of 40", atLevel(0, 40).count(7), 0);
        due("39 owed of 39", atLevel(0, 39).count(7), 0);
        due("39 owed of 38", atLevel(0, 38).count(7), 4);
        due("4, 21, 39 owed of 4", atLevel(0, 4).count(7), 6);
        due("4, 21, 39 owed of 3: all of them", atLevel(0, 3).count(7), 7);
        Noted zero = commonsOf(2);
        settings(zero, 1, 0, 50, 0);
        zero.close();
        due(zero.count(7), 0);
        zero.use(1, 1);
        zero.close();
        due(zero.count(7), 2);
        Noted most = commonsOf(3);
        settings(most, 1, 0, 50, 999);
        uses(most, 10, 17, 5);
        most.close();
        members(most, 3, 100, 629, 295);
        due(most.count(7), 0);
        uses(most, 8, 1, 17);
        most.close();
        members(most, 3, 100 + 26 * 26 - 18 * 18, 630, 295 + 18 * 18 - 1);
        closes(most, 1);
        uses(most, 19, 0, 0);
        most.close();
        due(most.memberOf(0, 3), 452 + 361);
        uses(most, 13);
        due(most.memberOf(0, 2), 169);
        most.close();
        due(most.memberOf(0, 3), 982);
        most.use(0, 4);
        most.close();
        due(most.memberOf(0, 3), 998);
        most.use(0, 1);
        most.close();
        due(most.memberOf(0, 3), 999);
        due(most.count(7), 0);
        most.use(0, 1);
        most.close();
        due(most.memberOf(0, 3), 1000);
        due(most.count(7), 1);
    }

    private static void debtsOfThisSeason() {
        sentence("terms", "what is owed with the charge of the season that ends");
        Noted x = commons(1);
        settings(x, 40, 0, 5, 9);
        x.use(0, 20);
        due(x.count(7), 0);
        x.close();
        due(x.count(7), 1);
        sentence("terms", "who is excluded is found at a season's end alone");
        due(x.pay(0, 10), 0);
        due(x.count(7), 1);
        x.close();
        due(x.count(7), 0);
        x.use(0, 20);
        x.close();
        due(x.undo() > 0 ? 1 : 0, 1);
        due(x.count(7), 0);
        x.set(3, 10);
        x.close();
        due(x.count(7), 0);
        x.set(3, 0);
        due(x.count(7), 0);
    }

    private static void debtorsAgain() {
        sentence("terms", "all who owe more: those who were excluded in the season that ended, too");
        Noted x = atLevel(0, 38);
        for (int k = 0; k < 3; k++) {
            due(x.count(7), 4);
            x.close();
        }
        due(x.memberOf(2, 8), 4);
        Noted turn = atLevel(46, 20);
        due(turn.count(7), 6);
        turn.set(1, 0);
        turn.close();
        due(turn.count(7), 6);
    }

    private static void nobodyBut() {
        sentence("terms", "Nobody is excluded but those");
        Noted x = atLevel(57, 999);
        due(x.count(7), 6);
        x.set(1, 36);
        x.close();
        due(x.count(7), 0);
        due(x.use(1, 20), 400);
        due(x.use(2, 20), 400);
    }

    private static void settingsInForce() {
        sentence("terms", "a season ends by the settings as they are then");
        Noted x = commonsOf(2);
        uses(x, 10, 10);
        x.set(0, 8);
        x.set(1, 100);
        x.set(2, 20);
        x.set(3, 36);
        due(x.close(), 50);
        due(x.count(2), 70);
        members(x, 3, 12, 38);
        due(x.count(7), 3);
    }

    private static void seasonsKept() {
        sentence("promise 10", "NOT_FOUND if not so many are kept");
        Noted x = commonsOf(1);
        for (int ended = 0; ended <= 14; ended++) {
            int kept = Math.min(ended, 6);
            due(x.seasonOf(kept, 0), NOT_FOUND);
            if (kept > 0) {
                due(x.seasonOf(kept - 1, 0), ended - kept);
                due(x.seasonOf(0, 0), ended - 1);
            }
            x.use(0, ended);
            x.close();
        }
        for (int ended = 0; ended <= 8; ended++) {
            Noted few = commonsOf(1);
            closes(few, ended);
            for (int index = Math.min(ended, 6); index <= 13; index++) {
                due(few.seasonOf(index, 0), NOT_FOUND);
                due(few.seasonOf(index, 4), NOT_FOUND);
            }
            due(few.seasonOf(MOST, 4), NOT_FOUND);
        }
        sentence("promise 10", "the latest 6 are kept");
        for (int index = 0; index < 6; index++) {
            due(x.seasonOf(index, 0), 14 - index);
            due(x.seasonOf(index, 1), 14 - index);
            due(x.seasonOf(index, 2), (14 - index) * (14 - index) / 40);
        }
    }

    private static void seasonEdges() {
        sentence("promise 10", "INVALID_ARGUMENT if index is negative or what is out of range");
        Noted x = atLevel(46, 20);
        for (int index : new int[] {-1, -2, -6, LEAST}) {
            due(x.seasonOf(index, 0), INVALID);
            due(x.seasonOf(index, 4), INVALID);
        }
        for (int what : new int[] {-1, 5, 6, LEAST, MOST}) {
            due(x.seasonOf(0, what), INVALID);
        }
        due(x.seasonOf(0, 0), 0);
        due(x.seasonOf(0, 4), 0);
        sentence("promise 10", "INVALID_ARGUMENT is returned rather than NOT_FOUND");
        for (int what : new int[] {-1, 5, LEAST, MOST}) {
            due(x.seasonOf(1, what), INVALID);
            due(x.seasonOf(MOST, what), INVALID);
            due(new Noted().seasonOf(0, what), INVALID);
        }
        due(new Noted().seasonOf(-1, 0), INVALID);
        sentence("promise 10", "nothing is kept of a season that has not ended");
        due(new Noted().seasonOf(0, 0), NOT_FOUND);
        Noted open = commonsOf(2);
        open.use(0, 5);
        due(open.seasonOf(0, 0), NOT_FOUND);
    }

    private static void seasonNumbers() {
        String[] names = {"0: its number", "1: the sum of uses", "2: the damage",
            "3: the health at its end (behind the growth)", "4: the set of those who were excluded in it"};
        int[] latest = {2, 20, 400, 9, 7};
        int[] middle = {1, 2, 4, 41, 6};
        int[] oldest = {0, 8, 64, 36, 0};
        for (int what = 0; what < names.length; what++) {
            sentence("promise 10", names[what]);
            Noted x = atLevel(46, 20);
            x.set(2, 9);
            x.use(0, 2);
            x.close();
            x.member(1);
            due(x.use(3, 20), 400);
            x.close();
            due(x.seasonOf(0, what), latest[what]);
            due(x.seasonOf(1, what), middle[what]);
            due(x.seasonOf(2, what), oldest[what]);
        }
        sentence("promise 10", "the number of the last season that can end is 998");
        Noted late = afterSeasons(999);
        due(late.seasonOf(0, 0), 998);
        due(late.seasonOf(5, 0), 993);
        due(late.seasonOf(6, 0), NOT_FOUND);
    }

    private static void seasonsAndUndo() {
        sentence("promise 10", "the seasons kept are as they were, behind an undo");
        Noted x = commonsOf(1);
        for (int season = 0; season < 8; season++) {
            x.use(0, season + 1);
            x.close();
        }
        x.undo();
        x.undo();
        x.undo();
        due(x.count(1), 6);
        for (int index = 0; index < 6; index++) {
            due(x.seasonOf(index, 0), 5 - index);
            due(x.seasonOf(index, 1), 6 - index);
        }
        due(x.seasonOf(6, 0), NOT_FOUND);
        Noted first = commonsOf(1);
        first.close();
        first.undo();
        due(first.seasonOf(0, 0), NOT_FOUND);
    }

    private static void wouldExcludeNobody() {
        sentence("promise 15", "Returns the set of members, 0 if there is none.");
        due(new Noted().wouldExclude(), 0);
        due(commonsOf(8).wouldExclude(), 0);
        Noted strict = new Noted();
        settings(strict, 1, 100, 0, 0);
        due(strict.wouldExclude(), 0);
        Noted out = atLevel(57, 999);
        out.set(1, 0);
        due(out.count(7), 6);
        due(out.wouldExclude(), 0);
    }

    private static void wouldExcludeAsClose() {
        sentence("promise 15", "Tells who would be excluded if the season ended now.");
        for (int level = 0; level <= 100; level += 4) {
            for (int owed : new int[] {0, 3, 4, 20, 38, 39, 999}) {
                Noted x = atLevel(level, owed);
                if (level % 8 == 0) {
                    x.set(1, 100 - level);
                }
                x.use(level / 4 % 3, 2);
                int foretold = x.wouldExclude();
                x.close();
                due("foretold is " + foretold + ":" + Noted.latestRun(), x.count(7), foretold);
            }
        }
        due("all of three by debts", atLevel(0, 3).wouldExclude(), 7);
        Noted x = commonsOf(8);
        settings(x, 1, 0, 0, 0);
        uses(x, 1, 1, 1, 1, 1, 1, 1, 1);
        due(x.wouldExclude(), 255);
        sentence("promise 15", "if: the season doesn't end");
        due(x.count(1), 0);
        due(x.count(2), 100);
        due(x.count(7), 0);
        due(x.count(6), 0);
        due(x.count(3), 8);
        due(x.wouldExclude(), 255);
    }

    private static void wouldExcludeInTheLastSeason() {
        sentence("promise 15", "if the season ended now, also if it can't");
        Noted x = afterSeasons(999);
        due(x.wouldExclude(), 0);
        x.set(3, 9);
        x.use(0, 20);
        due(x.wouldExclude(), 1);
        due(x.close(), LIMIT);
    }
}
