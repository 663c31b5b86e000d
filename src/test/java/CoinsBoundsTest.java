/** The boundaries of coins, repairs and settings: promises 5, 6, 7 and 16, and their terms. */
public final class CoinsBoundsTest extends Bench {
    public static void main(String[] args) {
        coins();
        owesLess();
        payersAndFund();
        points();
        aboveFullHealth();
        fundPays();
        costOfAPoint();
        restByUses();
        restWithoutThisSeason();
        coinsLeftByRounding();
        nobodyHasUsed();
        settingRanges();
        settingFirstValues();
        settingAnswers();
        settingsAtWork();
        canRepairNothing();
        canRepairByTheFund();
        canRepairAtMost();
        canRepairIsNoPromiseToPay();
        checks.end();
    }

    /** So many members, who owe 400, 1200, 2000 and so on, and no health. */
    private static Noted inDebt(int members) {
        Noted x = commonsOf(members);
        settings(x, 1, 0, 0, 999);
        for (int m = 0; m < members; m++) {
            x.use(m, 20);
        }
        x.close();
        return x;
    }

    private static void coins() {
        sentence("promise 5", "coins: 1 to 999");
        Noted x = inDebt(3);
        due(x.pay(2, 1), 1999);
        due(x.pay(2, 999), 1000);
        due(x.pay(2, 999), 1);
        due(x.pay(2, 1), 0);
        sentence("promise 5", "INVALID_ARGUMENT if an argument is out of range");
        Noted wrong = inDebt(3);
        for (int coins : new int[] {0, -1, 1000, LEAST, MOST}) {
            due(wrong.pay(2, coins), INVALID);
        }
        for (int member : new int[] {-1, 3, 8, LEAST, MOST}) {
            due(wrong.pay(member, 1), INVALID);
        }
        due(wrong.memberOf(2, 3), 2000);
        due(wrong.count(5), 0);
        due(new Noted().pay(0, 1), INVALID);
    }

    private static void owesLess() {
        sentence("promise 5", "NOT_POSSIBLE if the member owes less than that");
        Noted x = inDebt(2);
        due(x.pay(0, 401), NOT_POSSIBLE);
        due(x.pay(0, 999), NOT_POSSIBLE);
        due(x.pay(0, 399), 1);
        due(x.pay(0, 2), NOT_POSSIBLE);
        due(x.pay(0, 1), 0);
        due(x.pay(0, 1), NOT_POSSIBLE);
        due(commons(5).pay(0, 1), NOT_POSSIBLE);
        due(inDebt(1).pay(0, 400), 0);
        Noted open = commons(5);
        open.use(0, 20);
        due(open.memberOf(0, 2), 10);
        due(open.pay(0, 1), NOT_POSSIBLE);
        sentence("promise 5", "INVALID_ARGUMENT is returned rather than NOT_POSSIBLE");
        due(x.pay(0, 1000), INVALID);
        due(x.pay(0, 0), INVALID);
        due(x.pay(0, -1), INVALID);
        due(x.pay(2, 999), INVALID);
    }

    private static void payersAndFund() {
        sentence("terms", "What members pay goes into a fund (0 at first).");
        Noted x = inDebt(2);
        due(x.count(5), 0);
        x.pay(0, 400);
        due(x.count(5), 400);
        x.pay(1, 999);
        due(x.count(5), 1399);
        x.pay(1, 201);
        due(x.count(5), 1600);
        members(x, 4, 400, 1200);
        members(x, 3, 0, 0);
        due(x.count(6), 0);
        sentence("promise 5", "Lets a member pay, an excluded one too");
        Noted out = atLevel(46, 38);
        due(out.count(7), 6);
        due(out.pay(1, 21), 0);
        due(out.pay(2, 1), 38);
        due(out.pay(0, 4), 0);
        due(out.count(5), 26);
        members(out, 4, 4, 21, 1);
    }

    private static void points() {
        sentence("promise 6", "points: 1 to 100");
        Noted x = inDebt(1);
        due(x.repair(1), 3);
        due(x.count(2), 1);
        Noted all = inDebt(1);
        due(all.repair(100), 300);
        due(all.count(2), 100);
        due(all.count(10), 100);
        sentence("promise 6", "INVALID_ARGUMENT if points is out of range");
        for (int points : new int[] {0, -1, 101, LEAST, MOST}) {
            due(inDebt(1).repair(points), INVALID);
        }
        sentence("promise 6", "INVALID_ARGUMENT is returned rather than NOT_POSSIBLE");
        for (int points : new int[] {0, -1, 101, LEAST, MOST}) {
            due(new Noted().repair(points), INVALID);
            due(commons(1).repair(points), INVALID);
        }
    }

    private static void aboveFullHealth() {
        sentence("promise 6", "NOT_POSSIBLE if the health would be above 100");
        Noted x = atLevel(0, 999);
        due(x.repair(65), NOT_POSSIBLE);
        due(x.repair(100), NOT_POSSIBLE);
        due(x.count(2), 36);
        due(x.repair(63), 189);
        due(x.repair(2), NOT_POSSIBLE);
        due(x.repair(1), 3);
        due(x.count(2), 100);
        due(x.repair(1), NOT_POSSIBLE);
        due(x.repair(100), NOT_POSSIBLE);
        due(atLevel(0, 999).repair(64), 192);
        sentence("promise 6", "above 100, though the fund has enough");
        Noted rich = inDebt(2);
        rich.pay(1, 999);
        due(rich.repair(100), 0);
        due(rich.count(5), 699);
        due(rich.repair(1), NOT_POSSIBLE);
        due(rich.count(5), 699);
        sentence("promise 6", "nothing to repair, and no member");
        due(new Noted().repair(1), NOT_POSSIBLE);
        due(new Noted().repair(100), NOT_POSSIBLE);
        due(commonsOf(8).repair(1), NOT_POSSIBLE);
    }

    private static Noted withFund(int fund) {
        Noted x = atLevel(0, 999);
        if (fund > 0) {
            x.pay(2, fund);
        }
        return x;
    }

    private static void fundPaysOf30(int fund, int rest, int fundThen) {
        Noted x = withFund(fund);
        int owed = x.count(6);
        due(x.repair(10), rest);
        due(x.count(5), fundThen);
        due(x.count(6), owed + rest);
        due(x.count(2), 46);
        due(x.count(10), 10);
    }

    private static void fundPays() {
        sentence("terms", "The fund pays as far as it goes; the rest is owed by the members");
        fundPaysOf30(0, 30, 0);
        fundPaysOf30(1, 29, 0);
        fundPaysOf30(29, 1, 0);
        fundPaysOf30(30, 0, 0);
        fundPaysOf30(31, 0, 1);
        fundPaysOf30(39, 0, 9);
        sentence("promise 6", "Returns what is owed besides for it by members");
        Noted x = withFund(30);
        members(x, 3, 4, 21, 9);
        due(x.repair(10), 0);
        members(x, 3, 4, 21, 9);
        due(x.repair(1), 3);
        members(x, 3, 5, 22, 10);
        due(x.count(10), 11);
    }

    private static void costOfAPoint() {
        sentence("terms", "it costs setting 4 for each point");
        for (int cost : new int[] {1, 3, 20}) {
            Noted x = inDebt(1);
            x.set(4, cost);
            due(x.repair(1), cost);
            due(x.repair(99), 99 * cost);
            due(x.count(6), 400 + 100 * cost);
        }
    }

    private static void restByUses() {
        sentence("terms", "each owes the rest times the own use so far, divided by all uses so far");
        Noted x = commonsOf(3);
        settings(x, 1, 0, 0, 999, 1);
        uses(x, 5, 3, 2);
        x.close();
        members(x, 3, 25, 39, 36);
        due(x.repair(10), 10);
        members(x, 3, 25 + 5, 39 + 3, 36 + 2);
        due(x.repair(20), 20);
        members(x, 3, 30 + 10, 42 + 6, 38 + 4);
        sentence("terms", "one who has used nothing owes nothing of it");
        Noted idle = commonsOf(3);
        settings(idle, 1, 0, 0, 999, 20);
        uses(idle, 0, 20, 0);
        idle.close();
        due(idle.repair(100), 2000);
        members(idle, 3, 0, 2400, 0);
        sentence("terms", "by the uses so far, those of all seasons together");
        Noted seasons = commonsOf(2);
        settings(seasons, 40, 0, 0, 999, 1);
        uses(seasons, 20, 0);
        seasons.close();
        uses(seasons, 0, 10);
        seasons.close();
        due(seasons.count(2), 88);
        due(seasons.repair(12), 12);
        members(seasons, 3, 10 + 8, 2 + 4);
        sentence("terms", "by the uses so far, of those who were excluded in turn since then, too");
        Noted turned = atLevel(57, 999);
        members(turned, 6, 2, 0, 0);
        due(turned.repair(8), 24);
        members(turned, 3, 4 + 6, 21 + 9, 39 + 9);
    }

    private static void restWithoutThisSeason() {
        sentence("terms", "by their uses so far (without this season)");
        Noted x = commonsOf(2);
        settings(x, 1, 0, 0, 999, 1);
        uses(x, 2, 0);
        x.close();
        uses(x, 0, 20);
        due(x.repair(4), 4);
        members(x, 3, 4 + 4, 0);
        uses(x, 20, 20);
        due(x.undo(), 3);
        due(x.undo(), 3 - 1);
        due(x.undo(), 1);
        members(x, 3, 4, 0);
    }

    private static void coinsLeftByRounding() {
        sentence("terms", "what is left then by rounding is owed by those with uses, 1 coin each, the lowest numbers first");
        Noted x = commonsOf(4);
        settings(x, 1, 0, 0, 999, 1);
        uses(x, 0, 3, 3, 3);
        x.close();
        members(x, 3, 0, 9, 27, 45);
        due(x.repair(1), 1);
        members(x, 3, 0, 10, 27, 45);
        due(x.repair(2), 2);
        members(x, 3, 0, 11, 28, 45);
        due(x.repair(3), 3);
        members(x, 3, 0, 12, 29, 46);
        due(x.repair(4), 4);
        members(x, 3, 0, 14, 30, 47);
        due(x.repair(5), 5);
        members(x, 3, 0, 16, 32, 48);
        sentence("terms", "by rounding: to one with a little use as to one with much");
        Noted little = commonsOf(3);
        settings(little, 1, 0, 0, 999, 1);
        uses(little, 1, 0, 6);
        little.close();
        due(little.repair(6), 6);
        members(little, 3, 1 + 1, 0, 48 + 5);
        due(little.repair(7), 7);
        members(little, 3, 2 + 1, 0, 53 + 6);
        sentence("terms", "by rounding: 7 coins are left to 8 members with uses");
        Noted eight = commonsOf(8);
        settings(eight, 1, 0, 0, 999, 1);
        uses(eight, 1, 1, 1, 1, 1, 1, 1, 1);
        eight.close();
        due(eight.repair(15), 15);
        members(eight, 3, 1 + 2, 3 + 2, 5 + 2, 7 + 2, 9 + 2, 11 + 2, 13 + 2, 15 + 1);
        sentence("terms", "the lowest numbers first, whatever the season's order is");
        Noted later = commonsOf(3);
        settings(later, 1, 0, 0, 999, 1);
        uses(later, 2, 2, 2);
        later.close();
        later.close();
        due(later.memberOf(2, 9), 0);
        due(later.repair(1), 1);
        members(later, 3, 4 + 1, 12, 20);
    }

    private static void nobodyHasUsed() {
        sentence("promise 6", "or as told: if there is a rest, and nobody has used anything so far");
        Noted x = commonsOf(3);
        uses(x, 20, 20, 20);
        due(x.count(2), 100);
        due(x.repair(1), NOT_POSSIBLE);
        due(x.count(6), 0);
        sentence("terms", "a single unit of a single member is a use");
        Noted unit = commonsOf(8);
        settings(unit, 1, 0, 0, 999);
        unit.use(7, 1);
        unit.close();
        due(unit.count(2), 99);
        due(unit.repair(1), 3);
        members(unit, 3, 0, 0, 0, 0, 0, 0, 0, 1 + 3);
    }

    private static void settingRanges() {
        int[][] ranges = {{1, 200}, {0, 100}, {0, 50}, {0, 999}, {1, 20}};
        String[] names = {"0 what the square is divided by (1 to 200; 40)",
            "1 the health below which members are excluded (0 to 100; 40)", "2 what grows in a season (0 to 50; 5)",
            "3 the most that can be owed (0 to 999; 50)", "4 the cost of a point (1 to 20; 3)"};
        for (int what = 0; what < names.length; what++) {
            sentence("terms", names[what]);
            Noted x = new Noted();
            int first = x.count(20 + what);
            due(x.set(what, ranges[what][0]), first);
            due(x.count(20 + what), ranges[what][0]);
            due(x.set(what, ranges[what][1]), ranges[what][0]);
            due(x.count(20 + what), ranges[what][1]);
            for (int value : new int[] {ranges[what][0] - 1, ranges[what][1] + 1, LEAST, MOST}) {
                due(x.set(what, value), INVALID);
                due(x.count(20 + what), ranges[what][1]);
            }
        }
        sentence("promise 7", "what: 0 to 4");
        for (int what : new int[] {-1, 5, 20, LEAST, MOST}) {
            due(new Noted().set(what, 1), INVALID);
            due(new Noted().set(what, 20), INVALID);
        }
        sentence("promise 7", "INVALID_ARGUMENT if an argument is out of range: both of them");
        due(new Noted().set(5, 1000), INVALID);
        due(new Noted().set(-1, -1), INVALID);
    }

    private static void settingFirstValues() {
        sentence("promise 7", "Returns what it was: the first value at first");
        int[] first = {40, 40, 5, 50, 3};
        for (int what = 0; what < 5; what++) {
            due(new Noted().set(what, 7), first[what]);
        }
    }

    private static void settingAnswers() {
        sentence("promise 7", "Returns what it was");
        Noted x = new Noted();
        due(x.set(2, 50), 5);
        due(x.set(2, 0), 50);
        due(x.set(2, 0), 0);
        due(x.set(2, 17), 0);
        sentence("promise 7", "Sets a setting, and no other");
        counts(x, 20, 40, 40, 17, 50, 3);
        sentence("promise 7", "also to the value that it has");
        due(x.set(4, 3), 3);
        counts(x, 20, 40, 40, 17, 50, 3);
        due(x.count(11), 4);
    }

    private static void settingsAtWork() {
        sentence("promise 7", "a setting is in force at once");
        Noted x = commons(1);
        x.use(0, 20);
        due(x.count(4), 10);
        x.set(0, 1);
        due(x.count(4), 400);
        due(x.memberOf(0, 2), 400);
        x.set(0, 200);
        due(x.count(4), 2);
        due(x.gain(0, 20), 10018);
        sentence("promise 7", "what has ended stays as it was");
        Noted ended = atLevel(46, 20);
        settings(ended, 200, 0, 50, 999);
        members(ended, 3, 4, 21, 39);
        due(ended.count(7), 6);
        due(ended.count(2), 36);
        due(ended.count(8), 64);
        due(ended.seasonOf(0, 2), 64);
    }

    private static void canRepairNothing() {
        sentence("promise 16", "Returns how many: none without a fund");
        due(new Noted().canRepair(), 0);
        due(atLevel(0, 999).canRepair(), 0);
        sentence("promise 16", "Returns how many: none at full health");
        Noted full = atLevel(0, 999);
        full.pay(2, 39);
        due(full.canRepair(), 13);
        full.set(2, 50);
        full.close();
        full.close();
        due(full.count(2), 100);
        due(full.canRepair(), 0);
    }

    private static void canRepairByTheFund() {
        sentence("promise 16", "how many points could be repaired by the fund alone");
        int[] funds = {1, 2, 3, 4, 5, 6, 29, 30, 31, 39};
        for (int fund : funds) {
            due(withFund(fund).canRepair(), fund / 3);
        }
        sentence("promise 16", "by the fund alone, at each cost of a point");
        Noted x = withFund(39);
        x.set(4, 1);
        due(x.canRepair(), 39);
        x.set(4, 20);
        due(x.canRepair(), 1);
        x.set(4, 19);
        due(x.canRepair(), 2);
        x.set(4, 13);
        due(x.canRepair(), 3);
        x.set(4, 14);
        due(x.canRepair(), 2);
    }

    private static void canRepairAtMost() {
        sentence("promise 16", "at most 100 less the health");
        Noted x = inDebt(2);
        x.set(4, 1);
        x.pay(0, 99);
        due(x.canRepair(), 99);
        x.pay(0, 1);
        due(x.canRepair(), 100);
        x.pay(0, 1);
        due(x.canRepair(), 100);
        x.repair(1);
        due(x.canRepair(), 99);
        x.set(2, 50);
        x.close();
        due(x.count(2), 51);
        due(x.canRepair(), 49);
    }

    private static void canRepairIsNoPromiseToPay() {
        sentence("promise 16", "so many are repaired by the fund alone, one more not");
        for (int fund : new int[] {3, 5, 30, 38, 39}) {
            Noted x = withFund(fund);
            int points = x.canRepair();
            due(x.repair(points), 0);
            due(x.canRepair(), 0);
            due(x.repair(1), 3 - fund % 3);
        }
        sentence("promise 16", "could be: nothing is repaired");
        Noted x = withFund(39);
        due(x.canRepair(), 13);
        due(x.count(2), 36);
        due(x.count(5), 39);
        due(x.count(10), 0);
    }
}
