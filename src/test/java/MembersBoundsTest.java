/** The boundaries of members, uses, damage and charges: promises 1, 2, 3, 8 and 9, and their terms. */
public final class MembersBoundsTest extends Bench {
    public static void main(String[] args) {
        newObject();
        worths();
        mostMembers();
        newMemberIsNotExcluded();
        newMemberHasNothingYet();
        units();
        usesAgain();
        useAnswersTheCharge();
        usesOfTheExcluded();
        usesAtTheBeginning();
        noSuchMember();
        damage();
        damageOfTheSum();
        orderBegins();
        orderTurns();
        orderOfANewMember();
        chargesInOrder();
        chargesTogether();
        memberOfWhat();
        memberOfEdges();
        seasonsOut();
        countWhat();
        countEdges();
        setsAsBits();
        checks.end();
    }

    private static void newObject() {
        sentence("promise 1", "Creates a commons without members, in the season 0.");
        Noted x = new Noted();
        due(x.count(0), 0);
        due(x.count(1), 0);
        due(x.memberOf(0, 0), INVALID);
        sentence("terms", "The health (0 to 100; 100 at first)");
        due(new Noted().count(2), 100);
        sentence("terms", "a fund (0 at first)");
        due(new Noted().count(5), 0);
        sentence("terms", "a text of at most 60 characters, initially empty");
        due(new Noted().count(12), 0);
        sentence("terms", "The settings are (in parentheses: range; first value)");
        counts(new Noted(), 20, 40, 40, 5, 50, 3);
        sentence("promise 1", "nothing has happened to a new object");
        counts(new Noted(), 3, 0, 0, 0, 0, 0, 0, 0, 0, 0);
        due(new Noted().seasonOf(0, 0), NOT_FOUND);
        due(new Noted().undo(), NOT_POSSIBLE);
        sentence("promise 1", "an object shares nothing with another one");
        Noted busy = atLevel(46, 20);
        type(busy, "c;");
        Noted other = new Noted();
        counts(other, 0, 0, 0, 100, 0, 0, 0, 0, 0, 0, 0, 0, 0, 0);
        counts(other, 20, 40, 40, 5, 50, 3);
        due(busy.count(0), 3);
    }

    private static void worths() {
        sentence("promise 2", "worth: 0 to 30");
        Noted x = new Noted();
        due(x.member(0), 0);
        due(x.member(30), 1);
        due(x.member(1), 2);
        due(x.member(29), 3);
        members(x, 0, 0, 30, 1, 29);
        sentence("promise 2", "INVALID_ARGUMENT if worth is out of range");
        for (int worth : new int[] {-1, 31, 300, LEAST, MOST}) {
            due(x.member(worth), INVALID);
        }
        due(x.count(0), 4);
    }

    private static void mostMembers() {
        sentence("promise 2", "Returns the number of the member");
        Noted x = new Noted();
        for (int m = 0; m < 8; m++) {
            due(x.member(m + 3), m);
            due(x.count(0), m + 1);
        }
        members(x, 0, 3, 4, 5, 6, 7, 8, 9, 10);
        sentence("promise 2", "LIMIT_REACHED if there are 8");
        due(x.member(5), LIMIT);
        due(x.member(0), LIMIT);
        due(x.count(0), 8);
        due(commonsOf(7).member(5), 7);
        sentence("promise 2", "INVALID_ARGUMENT is returned rather than LIMIT_REACHED");
        due(x.member(31), INVALID);
        due(x.member(-1), INVALID);
        sentence("promise 2", "8 of them as things are: one less behind an undo");
        due(x.undo(), 3);
        due(x.count(0), 7);
        due(x.member(12), 7);
        due(x.member(12), LIMIT);
        due(x.memberOf(7, 0), 12);
    }

    private static void newMemberIsNotExcluded() {
        sentence("promise 2", "Adds a member, who is not excluded.");
        Noted x = atLevel(100, 0);
        due(x.count(7), 7);
        due(x.member(4), 3);
        due(x.memberOf(3, 7), 0);
        due(x.memberOf(3, 8), 0);
        due(x.count(7), 7);
        due(x.use(3, 20), 400);
    }

    private static void newMemberHasNothingYet() {
        sentence("promise 2", "a new member has used, owed and paid nothing, whoever had the number before");
        Noted x = commons(1);
        settings(x, 1, 0, 0, 0);
        x.member(9);
        x.use(1, 5);
        x.close();
        due(x.memberOf(1, 3), 25);
        due(x.memberOf(1, 7), 1);
        x.pay(1, 5);
        due(x.undo(), 3);
        due(x.undo(), 2);
        due(x.undo(), 1);
        due(x.undo(), 0);
        due(x.count(0), 1);
        due(x.member(3), 1);
        int[] wanted = {3, 0, 0, 0, 0, 0, 0, 0, 0, 1};
        for (int what = 0; what < wanted.length; what++) {
            due(x.memberOf(1, what), wanted[what]);
        }
    }

    private static void units() {
        sentence("promise 3", "units: 0 to 20");
        Noted x = commons(5, 5);
        due(x.use(0, 20), 10);
        due(x.use(0, 0), 0);
        due(x.use(0, 1), 0);
        due(x.use(0, 19), 9);
        due(x.memberOf(0, 1), 19);
        sentence("promise 3", "INVALID_ARGUMENT if an argument is out of range");
        for (int units : new int[] {-1, 21, 256, LEAST, MOST}) {
            due(x.use(0, units), INVALID);
        }
        due(x.memberOf(0, 1), 19);
    }

    private static void usesAgain() {
        sentence("promise 3", "Declares the use of a member in this season, in place of what was declared.");
        Noted x = commons(5, 5);
        for (int units : new int[] {7, 20, 20, 3, 0, 12}) {
            x.use(1, units);
            due(x.memberOf(1, 1), units);
            due(x.count(3), units);
        }
        x.close();
        due(x.memberOf(1, 5), 12);
    }

    private static void useAnswersTheCharge() {
        sentence("promise 3", "Returns the charge of this member then");
        Noted x = commonsOf(8);
        x.set(0, 1);
        for (int m = 0; m < 8; m++) {
            due(x.use(m, 20), 400 * (m + 1) * (m + 1) - 400 * m * m);
        }
        due(x.use(7, 0), 0);
        due(x.use(7, 1), 141 * 141 - 140 * 140);
        due(x.use(0, 19), 361);
    }

    private static void usesOfTheExcluded() {
        sentence("promise 3", "NOT_POSSIBLE if the member is excluded");
        Noted turn = atLevel(46, 999);
        due(turn.count(7), 2);
        for (int units : new int[] {0, 1, 20}) {
            due(turn.use(1, units), NOT_POSSIBLE);
        }
        due(turn.use(0, 1), 1);
        due(turn.use(2, 1), 1);
        due(turn.memberOf(0, 2), 3);
        Noted debts = atLevel(0, 38);
        due(debts.count(7), 4);
        due(debts.use(2, 0), NOT_POSSIBLE);
        due(debts.use(2, 20), NOT_POSSIBLE);
        due(debts.pay(2, 39), 0);
        due(debts.use(2, 1), NOT_POSSIBLE);
        sentence("promise 3", "INVALID_ARGUMENT is returned rather than NOT_POSSIBLE");
        due(turn.use(1, 21), INVALID);
        due(turn.use(1, -1), INVALID);
        due(debts.use(2, 21), INVALID);
        sentence("terms", "but not by those who are excluded in this season");
        turn.set(1, 0);
        turn.close();
        due(turn.count(7), 0);
        due(turn.use(1, 20), 400);
        debts.close();
        due(debts.use(2, 20), 400);
    }

    private static void usesAtTheBeginning() {
        sentence("terms", "In each season a member has a use of 0 to 20 units (0 at its beginning)");
        Noted x = commonsOf(8);
        settings(x, 200, 0, 0, 999);
        members(x, 1, 0, 0, 0, 0, 0, 0, 0, 0);
        uses(x, 20, 20, 20, 20, 20, 20, 20, 20);
        due(x.count(3), 160);
        x.close();
        members(x, 1, 0, 0, 0, 0, 0, 0, 0, 0);
        due(x.count(3), 0);
        due(x.count(4), 0);
    }

    private static void noSuchMember() {
        sentence("terms", "If there is no member with a certain number, this is INVALID_ARGUMENT.");
        for (int members = 0; members <= 8; members++) {
            Noted x = commonsOf(members);
            for (int number : new int[] {-1, members, 8, 32, LEAST, MOST}) {
                due(x.use(number, 0), INVALID);
                due(x.pay(number, 1), INVALID);
                due(x.memberOf(number, 0), INVALID);
                due(x.gain(number, 0), INVALID);
                due(x.bestUse(number), INVALID);
            }
            for (int number : new int[] {-3, members, 8, 32, LEAST, MOST}) {
                due(x.calm(number), INVALID);
            }
            for (int number : members == 0 ? new int[0] : new int[] {0, members - 1}) {
                due(x.use(number, 0), 0);
                due(x.pay(number, 1), NOT_POSSIBLE);
                due(x.memberOf(number, 0), 1);
                due(x.gain(number, 0), 10000);
                due(x.bestUse(number) >= 0 ? 1 : 0, 1);
                due(x.calm(number) >= 0 ? 1 : 0, 1);
            }
        }
    }

    private static void damageIs(int divisor, int damage, int... units) {
        Noted x = commonsOf(8);
        x.set(0, divisor);
        uses(x, units);
        due(x.count(4), damage);
    }

    private static void damage() {
        sentence("terms", "The damage of a sum of units is this sum times itself, divided by setting 0.");
        damageIs(40, 0);
        damageIs(1, 0);
        damageIs(1, 1, 1);
        damageIs(40, 10, 20);
        damageIs(1, 25600, 20, 20, 20, 20, 20, 20, 20, 20);
        damageIs(200, 128, 20, 20, 20, 20, 20, 20, 20, 20);
        sentence("terms", "divisions are rounded down");
        damageIs(40, 0, 6);
        damageIs(40, 1, 7);
        damageIs(200, 0, 14);
        damageIs(200, 1, 15);
        damageIs(3, 133, 20);
        damageIs(40, 9, 19);
        damageIs(25, 16, 20);
        damageIs(26, 15, 20);
    }

    private static void damageOfTheSum() {
        sentence("terms", "The damage of the season is that of the sum of all uses.");
        damageIs(40, 2, 5, 5);
        damageIs(40, 1, 1, 1, 1, 1, 1, 1, 1);
        damageIs(1, 64, 1, 1, 1, 1, 1, 1, 1, 1);
        Noted x = commonsOf(2);
        uses(x, 5, 5);
        due(x.close(), 2);
    }

    private static void orderBegins() {
        sentence("terms", "the one whose number is the number of the season (0 at first) modulo the number of members");
        for (int members = 1; members <= 8; members++) {
            Noted x = commonsOf(members);
            for (int season = 0; season <= 2 * members; season++) {
                due(x.memberOf(season % members, 9), 0);
                x.close();
            }
        }
    }

    private static void orderTurns() {
        sentence("terms", "goes on by numbers, and from the greatest number to 0");
        for (int members = 1; members <= 8; members++) {
            Noted x = commonsOf(members);
            for (int season = 0; season <= members; season++) {
                for (int m = 0; m < members; m++) {
                    due(x.memberOf(m, 9), (m - season + 2 * members) % members);
                }
                x.close();
            }
        }
    }

    private static void orderOfANewMember() {
        sentence("terms", "modulo the number of members, as many as there are then");
        Noted x = commonsOf(3);
        closes(x, 3);
        members(x, 9, 0, 1, 2);
        x.member(1);
        members(x, 9, 1, 2, 3, 0);
        x.undo();
        members(x, 9, 0, 1, 2);
        Noted late = afterSeasons(998);
        late.close();
        due(late.memberOf(0, 9), 0);
        late.member(1);
        members(late, 9, 1, 0);
    }

    private static void chargesInOrder() {
        sentence("terms", "The charge of a member is the damage of the sum of the uses up to this one"
            + ", less the damage of the sum of those ahead of it");
        int[][] wanted = {{1, 8, 27}, {11, 4, 21}, {7, 20, 9}, {1, 8, 27}};
        Noted x = commonsOf(3);
        settings(x, 1, 0, 50, 999);
        for (int[] charges : wanted) {
            uses(x, 1, 2, 3);
            members(x, 2, charges);
            x.close();
        }
        members(x, 3, 1 + 11 + 7 + 1, 8 + 4 + 20 + 8, 27 + 21 + 9 + 27);
        sentence("terms", "one without a use has no charge, wherever it stands");
        x.close();
        x.use(1, 20);
        members(x, 2, 0, 400, 0);
        sentence("terms", "from the greatest number to 0, with 8 of them");
        Noted all = commonsOf(8);
        settings(all, 1, 0, 50, 999);
        closes(all, 7);
        uses(all, 1, 1, 1, 1, 1, 1, 1, 1);
        members(all, 2, 3, 5, 7, 9, 11, 13, 15, 1);
    }

    private static void chargesTogether() {
        sentence("terms", "All charges together are the damage of the season.");
        Noted x = commonsOf(8);
        settings(x, 7, 0, 50, 999);
        for (int season = 0; season < 9; season++) {
            uses(x, 3, 1, 4, 1, 5, 9, 2, 6);
            int charges = 0;
            for (int m = 0; m < 8; m++) {
                charges += x.memberOf(m, 2);
            }
            due(charges, 137);
            due(x.count(4), 137);
            x.close();
            due(x.count(6), 137 * (season + 1));
        }
    }

    /** Season 1, so the order is 1, 2, 0: the member 1 is out in turn and has paid 4. */
    private static Noted inSeasonOne() {
        Noted x = atLevel(46, 999);
        x.pay(1, 4);
        uses(x, 1);
        x.use(2, 5);
        return x;
    }

    private static void memberOfWhat() {
        int[][] wanted = {
            {1, 1, 36 - 25, 4, 0, 2, 2, 0, 0, 2},
            {1, 0, 0, 17, 4, 3, 0, 1, 1, 0},
            {1, 5, 25, 39, 0, 3, 3, 0, 0, 1}};
        String[] names = {"0: the worth", "1: the use in this season", "2: the charge as things are",
            "3: what is owed", "4: what was paid so far", "5: the use so far, without this season",
            "6: the use since the member was excluded in turn last, without this season",
            "7: 1 if excluded in this season, otherwise 0", "8: the seasons in which the member was excluded so far",
            "9: the place in the order of charges, from 0"};
        for (int what = 0; what < names.length; what++) {
            sentence("promise 8", names[what]);
            Noted x = inSeasonOne();
            for (int m = 0; m < 3; m++) {
                due(x.memberOf(m, what), wanted[m][what]);
            }
        }
    }

    private static void memberOfEdges() {
        sentence("promise 8", "INVALID_ARGUMENT if an argument is out of range");
        Noted x = commons(7);
        for (int what : new int[] {-1, 10, 11, LEAST, MOST}) {
            due(x.memberOf(0, what), INVALID);
            due(x.memberOf(1, what), INVALID);
        }
        due(x.memberOf(0, 0), 7);
        due(x.memberOf(0, 9), 0);
        for (int number : new int[] {-1, 1, 7, 8, LEAST, MOST}) {
            due(x.memberOf(number, 0), INVALID);
            due(x.memberOf(number, 9), INVALID);
        }
        due(new Noted().memberOf(0, 0), INVALID);
        Noted full = commonsOf(8);
        due(full.memberOf(7, 9), 7);
        due(full.memberOf(8, 9), INVALID);
    }

    private static void seasonsOut() {
        sentence("promise 8", "the seasons in which the member was excluded so far, this one too");
        Noted x = atLevel(0, 38);
        members(x, 8, 0, 0, 1);
        x.close();
        members(x, 8, 0, 0, 2);
        x.pay(2, 39);
        members(x, 8, 0, 0, 2);
        x.close();
        members(x, 8, 0, 0, 2);
        sentence("promise 8", "the seasons excluded, of the first member and of the last one");
        for (int member = 0; member < 8; member++) {
            Noted eight = commonsOf(8);
            settings(eight, 1, 0, 0, 0);
            eight.use(member, 1);
            closes(eight, 3);
            for (int m = 0; m < 8; m++) {
                due(eight.memberOf(m, 8), m == member ? 3 : 0);
            }
        }
        sentence("promise 8", "once a season, in turn and by debts at once");
        Noted both = atLevel(46, 20);
        due(both.count(7), 6);
        members(both, 8, 0, 1, 1);
    }

    private static void countWhat() {
        int[] wanted = {3, 1, 39, 5, 25, 0, 62, 2, 64, 0, 3, 4, 3};
        String[] names = {"0: members", "1: the season", "2: the health", "3: the sum of all uses in this season",
            "4: the damage of the season as things are", "5: the fund", "6: what all members owe",
            "7: the set of those who are excluded", "8: damage of all seasons that ended",
            "9: damage that found no health any more", "10: points repaired so far", "11: states in the history",
            "12: the length of the text"};
        for (int what = 0; what < wanted.length; what++) {
            sentence("promise 9", names[what]);
            Noted x = atLevel(46, 999);
            x.pay(1, 4);
            x.use(2, 5);
            x.set(4, 2);
            x.repair(3);
            type(x, "c; ");
            due(x.count(what), wanted[what]);
        }
        sentence("promise 9", "20 to 24: the settings 0 to 4");
        Noted x = new Noted();
        settings(x, 11, 12, 13, 14, 15);
        counts(x, 20, 11, 12, 13, 14, 15);
    }

    private static void countEdges() {
        sentence("promise 9", "INVALID_ARGUMENT if what is out of range");
        for (int what : new int[] {-1, 13, 14, 19, 25, 26, LEAST, MOST}) {
            due(new Noted().count(what), INVALID);
            due(atLevel(46, 20).count(what), INVALID);
        }
        due(new Noted().count(0), 0);
        due(new Noted().count(12), 0);
        due(new Noted().count(20), 40);
        due(new Noted().count(24), 3);
        sentence("promise 9", "as much as there may be");
        Noted x = commonsOf(8);
        settings(x, 1, 100, 0, 0);
        uses(x, 20, 20, 20, 20, 20, 20, 20, 20);
        due(x.count(3), 160);
        due(x.count(4), 25600);
        x.close();
        counts(x, 5, 0, 25600, 255, 25600, 25500);
        due(x.repair(100), 300);
        counts(x, 5, 0, 25900);
    }

    private static void setsAsBits() {
        sentence("terms", "Sets of members are told as bits: bit k is for the member k.");
        for (int member = 0; member < 8; member++) {
            Noted x = commonsOf(8);
            settings(x, 1, 0, 0, 0);
            x.use(member, 1);
            due(x.wouldExclude(), 1 << member);
            x.close();
            due(x.count(7), 1 << member);
            due(x.memberOf(member, 7), 1);
            x.set(3, 999);
            x.close();
            due(x.seasonOf(0, 4), 1 << member);
        }
    }
}
