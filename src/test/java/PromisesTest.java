/** Each promise by its number: ordinary inputs, the edges that the document names, and wrong inputs. */
public final class PromisesTest extends Bench {
    public static void main(String[] args) {
        newObject();
        member();
        use();
        close();
        exclusionInTurn();
        exclusionByDebts();
        pay();
        repair();
        set();
        memberOf();
        count();
        seasonOf();
        gain();
        bestUse();
        calm();
        bestForAll();
        wouldExclude();
        canRepair();
        undo();
        type();
        clearText();
        fault();
        faultForms();
        play();
        lastSeason();
        checks.end();
    }

    private static void members(Noted x, String name, int what, int... wanted) {
        for (int m = 0; m < wanted.length; m++) {
            due(name + ": memberOf(" + m + ", " + what + ")", x.memberOf(m, what), wanted[m]);
        }
    }

    private static void counts(Noted x, String name, int from, int... wanted) {
        for (int k = 0; k < wanted.length; k++) {
            due(name + ": count(" + (from + k) + ")", x.count(from + k), wanted[k]);
        }
    }

    private static void newObject() {
        checks.under("promise 1");
        Noted x = new Noted();
        counts(x, "new", 0, 0, 0, 100, 0, 0, 0, 0, 0, 0, 0, 0, 0, 0);
        counts(x, "new", 20, 40, 40, 5, 50, 3);
        due("memberOf(0, 0)", x.memberOf(0, 0), INVALID);
        due("seasonOf(0, 0)", x.seasonOf(0, 0), NOT_FOUND);
        due("close()", x.close(), NOT_POSSIBLE);
        due("undo()", x.undo(), NOT_POSSIBLE);
        due("fault(0)", x.fault(0), NOT_FOUND);
        Noted y = new Noted();
        y.member(7);
        due("another object's member", x.count(0), 0);
    }

    private static void member() {
        checks.under("promise 2");
        Noted x = new Noted();
        for (int worth : new int[] {-1, 31, LEAST, MOST}) {
            due("member(" + worth + ")", x.member(worth), INVALID);
        }
        due("after wrong ones, members", x.count(0), 0);
        due("after wrong ones, states", x.count(11), 0);
        due("member(0)", x.member(0), 0);
        due("member(30)", x.member(30), 1);
        for (int k = 2; k < 8; k++) {
            due("member(" + k + ")", x.member(k), k);
        }
        members(x, "worths", 0, 0, 30, 2, 3, 4, 5, 6, 7);
        due("a ninth", x.member(5), LIMIT);
        due("a ninth out of range", x.member(31), INVALID);
        due("members", x.count(0), 8);

        Noted late = commons(1);
        settings(late, 1, 100, 0, 0);
        late.use(0, 5);
        late.close();
        due("the first one is out", late.count(7), 1);
        due("a new one", late.member(4), 1);
        due("a new one is not out", late.memberOf(1, 7), 0);
        due("a new one declares", late.use(1, 2), 4);
        members(late, "places with the new one", 9, 1, 0);
    }

    private static void use() {
        checks.under("promise 3");
        Noted x = commons(5, 10, 2);
        due("use(0, 10)", x.use(0, 10), 2);
        due("use(1, 20)", x.use(1, 20), 20);
        due("use(2, 5)", x.use(2, 5), 8);
        due("use(0, 0), behind nobody", x.use(0, 0), 0);
        due("the next one's charge is less", x.memberOf(1, 2), 10);
        due("use(1, 4) in place of 20", x.use(1, 4), 0);
        due("sum", x.count(3), 9);
        due("states before errors", x.count(11), 4);
        for (int units : new int[] {-1, 21, LEAST, MOST}) {
            due("use(0, " + units + ")", x.use(0, units), INVALID);
        }
        for (int m : new int[] {-1, 3, 8, LEAST, MOST}) {
            due("use(" + m + ", 1)", x.use(m, 1), INVALID);
        }
        due("sum after errors", x.count(3), 9);
        x.close();
        due("in season 1 the member 1 is first", x.use(1, 20), 10);
        due("then the member 2", x.use(2, 20), 30);
        due("and the member 0 last", x.use(0, 20), 50);

        Noted out = commons(1, 1);
        settings(out, 1, 0, 0, 10);
        uses(out, 4, 0);
        out.close();
        due("use(0, 3) of one who is out", out.use(0, 3), NOT_POSSIBLE);
        due("use(0, 0) of one who is out", out.use(0, 0), NOT_POSSIBLE);
        due("use(0, 21) of one who is out", out.use(0, 21), INVALID);
        due("use(1, 3) of the other", out.use(1, 3), 9);
    }

    private static void close() {
        checks.under("promise 4");
        due("close() of nobody", new Noted().close(), NOT_POSSIBLE);
        Noted x = commons(5, 10, 2);
        uses(x, 10, 20, 5);
        due("close()", x.close(), 30);
        members(x, "use", 1, 0, 0, 0);
        members(x, "owed", 3, 2, 20, 8);
        members(x, "used", 5, 10, 20, 5);
        members(x, "used since", 6, 10, 20, 5);
        members(x, "places", 9, 2, 0, 1);
        counts(x, "after one season", 0, 3, 1, 75, 0, 0, 0, 30, 0, 30, 0, 0);
        uses(x, 1, 2, 3);
        due("close() of little use", x.close(), 0);
        members(x, "used", 5, 11, 22, 8);
        due("grown again", x.count(2), 80);
        for (int k = 0; k < 5; k++) {
            due("close() of no use", x.close(), 0);
        }
        due("never above 100", x.count(2), 100);

        Noted hard = commons(0, 0);
        settings(hard, 2, 0, 7, 999);
        uses(hard, 10, 10);
        due("close() beyond the health", hard.close(), 200);
        counts(hard, "beyond the health", 7, 0, 200, 100);
        due("health grows from 0", hard.count(2), 7);
        uses(hard, 10, 0);
        due("close() again", hard.close(), 50);
        counts(hard, "beyond the health again", 7, 0, 250, 143);
        due("charges in season 1", hard.memberOf(0, 3), 50 + 50);
    }

    private static void exclusionInTurn() {
        checks.under("promise 4, in turn");
        due("at the level", atLevel(36, 999).count(7), 0);
        due("1 below it", atLevel(37, 999).count(7), 2);
        due("10 below it", atLevel(46, 999).count(7), 2);
        due("11 below it", atLevel(47, 999).count(7), 6);
        due("21 below it: all but one", atLevel(57, 999).count(7), 6);
        due("64 below it: all but one", atLevel(100, 999).count(7), 6);

        Noted x = atLevel(46, 999);
        members(x, "used since", 6, 2, 0, 3);
        members(x, "used", 5, 2, 3, 3);
        members(x, "seasons out", 8, 0, 1, 0);
        x.close();
        due("the next turn: one who was not out", x.count(7), 4);
        members(x, "used since", 6, 2, 0, 0);
        x.close();
        due("the third turn", x.count(7), 1);
        x.close();
        due("all at 0: the lowest who was not out", x.count(7), 2);
        members(x, "seasons out", 8, 1, 2, 1);
        x.set(1, 36);
        x.close();
        due("health enough: nobody", x.count(7), 0);
        members(x, "seasons out stay", 8, 1, 2, 1);

        Noted few = atLevel(100, 999);
        few.close();
        due("not so many: fewer", few.count(7), 1);
        few.close();
        due("two again", few.count(7), 6);

        Noted one = commons(1);
        settings(one, 1, 100, 0, 999);
        one.use(0, 10);
        one.close();
        due("a single member stays", one.count(7), 0);
    }

    private static void exclusionByDebts() {
        checks.under("promise 4, by debts");
        members(atLevel(0, 999), "owed", 3, 4, 21, 39);
        due("as much as allowed", atLevel(0, 39).count(7), 0);
        due("more", atLevel(0, 38).count(7), 4);
        due("two of them", atLevel(0, 20).count(7), 6);
        due("all of them", atLevel(0, 3).count(7), 7);
        due("in turn and by debts", atLevel(46, 38).count(7), 6);

        Noted x = atLevel(0, 38);
        members(x, "debts are no turn", 6, 2, 3, 3);
        due("what is owed at the end counts", x.pay(2, 39), 0);
        due("still out in this season", x.memberOf(2, 7), 1);
        x.close();
        due("free again", x.count(7), 0);
        members(x, "seasons out", 8, 0, 0, 1);

        Noted both = atLevel(46, 20);
        due("in turn by use, and both by debts", both.count(7), 6);
        members(both, "since", 6, 2, 0, 3);
        both.close();
        due("the only one who was not out, and both by debts", both.count(7), 7);
        members(both, "since", 6, 0, 0, 3);
        members(both, "seasons out", 8, 1, 2, 2);
    }

    private static void pay() {
        checks.under("promise 5");
        Noted x = commons(5, 10, 2);
        uses(x, 10, 20, 5);
        x.close();
        due("pay(1, 15)", x.pay(1, 15), 5);
        due("pay(1, 6), too much", x.pay(1, 6), NOT_POSSIBLE);
        due("pay(1, 5), all", x.pay(1, 5), 0);
        due("pay(1, 1), nothing owed", x.pay(1, 1), NOT_POSSIBLE);
        due("pay(2, 3)", x.pay(2, 3), 5);
        for (int coins : new int[] {0, -1, 1000, LEAST, MOST}) {
            due("pay(0, " + coins + ")", x.pay(0, coins), INVALID);
        }
        for (int m : new int[] {-1, 3, LEAST, MOST}) {
            due("pay(" + m + ", 1)", x.pay(m, 1), INVALID);
        }
        members(x, "paid", 4, 0, 20, 3);
        members(x, "owed", 3, 2, 0, 5);
        due("fund", x.count(5), 23);
        due("all owed", x.count(6), 7);
        Noted much = commons(0, 0, 0);
        settings(much, 1, 0, 0, 0);
        uses(much, 20, 20, 20);
        much.close();
        due("pay(2, 999) of 2000", much.pay(2, 999), 1001);
        due("pay(2, 999) again", much.pay(2, 999), 2);
        due("pay(2, 999), more than owed", much.pay(2, 999), NOT_POSSIBLE);
    }

    private static void repair() {
        checks.under("promise 6");
        Noted x = commons(5, 10, 2);
        uses(x, 10, 20, 5);
        x.close();
        x.pay(1, 15);
        for (int points : new int[] {0, -1, 101, LEAST, MOST}) {
            due("repair(" + points + ")", x.repair(points), INVALID);
        }
        due("repair(26), above 100", x.repair(26), NOT_POSSIBLE);
        due("repair(4) by the fund", x.repair(4), 0);
        due("the fund", x.count(5), 3);
        members(x, "owed", 3, 2, 5, 8);
        due("repair(7), 18 of it owed", x.repair(7), 18);
        members(x, "owed by uses", 3, 2 + 5 + 1, 5 + 10, 8 + 2);
        counts(x, "after repairs", 5, 0, 33);
        due("health", x.count(2), 86);
        due("points", x.count(10), 11);
        x.use(2, 20);
        due("repair(14) up to 100", x.repair(14), 42);
        members(x, "this season's use doesn't count", 3, 8 + 12, 15 + 24, 10 + 6);
        due("repair(1) at 100", x.repair(1), NOT_POSSIBLE);

        Noted rest = commons(0, 0, 0, 0);
        settings(rest, 1, 0, 0, 999);
        uses(rest, 0, 3, 3, 3);
        rest.close();
        rest.set(4, 1);
        due("repair(2), less than a share", rest.repair(2), 2);
        members(rest, "one coin each, the lowest with uses", 3, 0, 9 + 1, 27 + 1, 45);

        Noted unused = commons(3);
        due("repair(1) of full health", unused.repair(1), NOT_POSSIBLE);
        Noted newcomers = commons(3, 3);
        settings(newcomers, 1, 0, 0, 999);
        newcomers.use(0, 1);
        newcomers.close();
        newcomers.pay(0, 1);
        newcomers.set(4, 1);
        due("repair(1) by the fund alone", newcomers.repair(1), 0);
        due("what is owed then", newcomers.count(6), 0);
        newcomers.undo();
        newcomers.set(4, 5);
        due("repair(1), 4 of it owed", newcomers.repair(1), 4);
        members(newcomers, "all by the only one with a use", 3, 4, 0);

        Noted units = commons(0, 0);
        settings(units, 1, 0, 0, 999);
        uses(units, 1, 2);
        units.close();
        due("repair(1), 3 of it owed", units.repair(1), 3);
        units.set(4, 4);
        due("repair(2), 8 of it owed", units.repair(2), 8);
        members(units, "a single unit is a use", 3, 1 + 1 + 2 + 1, 8 + 2 + 5);

        Noted none = commons(0, 0);
        settings(none, 1, 0, 0, 999);
        uses(none, 20, 0);
        none.close();
        none.set(4, 20);
        due("repair(100) of no health", none.repair(100), 2000);
        due("all health", none.count(2), 100);
    }

    private static void set() {
        checks.under("promise 7");
        int[][] ranges = {{1, 200, 40}, {0, 100, 40}, {0, 50, 5}, {0, 999, 50}, {1, 20, 3}};
        Noted x = new Noted();
        for (int what = 0; what < 5; what++) {
            int[] range = ranges[what];
            due("set(" + what + ", least - 1)", x.set(what, range[0] - 1), INVALID);
            due("set(" + what + ", most + 1)", x.set(what, range[1] + 1), INVALID);
            due("set(" + what + ", least)", x.set(what, range[0]), range[2]);
            due("set(" + what + ", most)", x.set(what, range[1]), range[0]);
            due("count(20 + " + what + ")", x.count(20 + what), range[1]);
        }
        for (int what : new int[] {-1, 5, LEAST, MOST}) {
            due("set(" + what + ", 10)", x.set(what, 10), INVALID);
        }
        counts(x, "all", 20, 200, 100, 50, 999, 20);
        due("states", x.count(11), 4);
        Noted y = commons(1);
        y.use(0, 20);
        due("damage by 40", y.count(4), 10);
        y.set(0, 3);
        due("damage by 3", y.count(4), 133);
    }

    private static void memberOf() {
        checks.under("promise 8");
        Noted x = atLevel(46, 999);
        x.pay(1, 4);
        x.use(2, 5);
        x.use(0, 1);
        int[][] wanted = {
            {1, 1, 1 + 10, 4, 0, 2, 2, 0, 0, 2},
            {1, 0, 0, 17, 4, 3, 0, 1, 1, 0},
            {1, 5, 25, 39, 0, 3, 3, 0, 0, 1}};
        for (int m = 0; m < 3; m++) {
            for (int what = 0; what < 10; what++) {
                due("memberOf(" + m + ", " + what + ")", x.memberOf(m, what), wanted[m][what]);
            }
        }
        for (int what : new int[] {-1, 10, LEAST, MOST}) {
            due("memberOf(0, " + what + ")", x.memberOf(0, what), INVALID);
        }
        for (int m : new int[] {-1, 3, 7, 8, LEAST, MOST}) {
            due("memberOf(" + m + ", 0)", x.memberOf(m, 0), INVALID);
        }
    }

    private static void count() {
        checks.under("promise 9");
        Noted x = atLevel(46, 999);
        x.pay(1, 4);
        x.use(2, 5);
        x.set(4, 2);
        x.repair(3);
        text(x, "c; ");
        counts(x, "all", 0, 3, 1, 39, 5, 25, 0, 64 - 4 + 2, 2, 64, 0, 3, 4, 3);
        counts(x, "settings", 20, 1, 46, 0, 999, 2);
        for (int what : new int[] {-1, 13, 19, 25, 100, LEAST, MOST}) {
            due("count(" + what + ")", x.count(what), INVALID);
        }
    }

    private static void seasonOf() {
        checks.under("promise 10");
        Noted x = atLevel(46, 999);
        x.set(2, 9);
        x.use(0, 3);
        x.close();
        int[][] wanted = {{1, 3, 9, 36, 2}, {0, 8, 64, 36, 0}};
        for (int index = 0; index < 2; index++) {
            for (int what = 0; what < 5; what++) {
                due("seasonOf(" + index + ", " + what + ")", x.seasonOf(index, what), wanted[index][what]);
            }
        }
        due("seasonOf(2, 0)", x.seasonOf(2, 0), NOT_FOUND);
        due("seasonOf(MOST, 0)", x.seasonOf(MOST, 0), NOT_FOUND);
        due("seasonOf(2, 5)", x.seasonOf(2, 5), INVALID);
        due("seasonOf(0, -1)", x.seasonOf(0, -1), INVALID);
        due("seasonOf(-1, 0)", x.seasonOf(-1, 0), INVALID);
        due("seasonOf(LEAST, 0)", x.seasonOf(LEAST, 0), INVALID);
        for (int k = 0; k < 5; k++) {
            x.close();
        }
        for (int index = 0; index < 6; index++) {
            due("of 7 seasons the number of " + index, x.seasonOf(index, 0), 6 - index);
        }
        due("seasonOf(6, 0)", x.seasonOf(6, 0), NOT_FOUND);
        due("the oldest one's uses", x.seasonOf(5, 1), 3);
        due("its damage", x.seasonOf(5, 2), 9);
    }

    private static void gain() {
        checks.under("promise 11");
        Noted x = commons(5, 10, 2);
        uses(x, 10, 20, 5);
        due("gain(1, 10)", x.gain(1, 10), 10092);
        due("gain(1, 0)", x.gain(1, 0), 10000);
        due("gain(2, 20)", x.gain(2, 20), 10000 + 40 - (62 - 22));
        due("gain(0, 20)", x.gain(0, 20), 10090);
        due("the use is as it was", x.memberOf(2, 1), 5);
        for (int units : new int[] {-1, 21, LEAST, MOST}) {
            due("gain(0, " + units + ")", x.gain(0, units), INVALID);
        }
        for (int m : new int[] {-1, 3, LEAST, MOST}) {
            due("gain(" + m + ", 0)", x.gain(m, 0), INVALID);
        }
        Noted worst = commons(0, 0, 0, 0, 0, 0, 0, 0);
        worst.set(0, 1);
        uses(worst, 20, 20, 20, 20, 20, 20, 20, 20);
        due("the least gain of all", worst.gain(7, 20), 4000);
        Noted out = atLevel(46, 999);
        due("gain(1, 1) of one who is out", out.gain(1, 1), NOT_POSSIBLE);
        due("gain(1, 0) of one who is out", out.gain(1, 0), 10000);
        due("gain(1, 21) of one who is out", out.gain(1, 21), INVALID);
    }

    private static void bestUse() {
        checks.under("promise 12");
        Noted x = commons(5, 10, 2);
        uses(x, 10, 20, 5);
        due("bestUse(0)", x.bestUse(0), 20);
        due("bestUse(1)", x.bestUse(1), 20);
        due("bestUse(2)", x.bestUse(2), 4);
        for (int m : new int[] {-1, -2, 3, LEAST, MOST}) {
            due("bestUse(" + m + ")", x.bestUse(m), INVALID);
        }
        Noted zero = commons(0);
        due("no worth: the least of several", zero.bestUse(0), 0);
        Noted little = commons(2);
        little.set(0, 1);
        due("1 unit: 2 less 1; 2 units: 4 less 4", little.bestUse(0), 1);
        Noted some = commons(1);
        some.set(0, 8);
        due("4 units: 4 less 2; 3 units: 3 less 1; 2 units: 2 less 0", some.bestUse(0), 2);
        Noted out = atLevel(46, 999);
        due("one who is out", out.bestUse(1), 0);
        due("another", out.bestUse(0), 0);
        out.set(0, 200);
        due("one who is out, at little damage", out.bestUse(1), 0);
        due("another, at little damage: 19 less 1 and 20 less 2", out.bestUse(0), 19);
    }

    private static void calm() {
        checks.under("promise 13");
        Noted x = commons(5, 10, 2);
        uses(x, 10, 20, 5);
        due("rounds", x.calm(-2), 2);
        due("sum", x.calm(-1), 40);
        due("of 0", x.calm(0), 20);
        due("of 1", x.calm(1), 20);
        due("of 2", x.calm(2), 0);
        members(x, "uses are as they were", 1, 10, 20, 5);
        for (int m : new int[] {-3, 3, 8, LEAST, MOST}) {
            due("calm(" + m + ")", x.calm(m), INVALID);
        }
        uses(x, 20, 20, 0);
        due("one round of those that are calm", x.calm(-2), 1);
        Noted nobody = new Noted();
        due("nobody's sum", nobody.calm(-1), 0);
        due("nobody's rounds", nobody.calm(-2), 1);
        due("nobody's use", nobody.calm(0), INVALID);
        Noted turned = commons(2, 30);
        turned.set(1, 0);
        turned.close();
        due("the first in number is last in order: rounds", turned.calm(-2), 3);
        due("its use: 28 less 18, 30 less 20 and 32 less 22", turned.calm(0), 14);
        due("the other's use", turned.calm(1), 20);
        Noted out = atLevel(46, 999);
        out.set(0, 200);
        due("of one who is out", out.calm(1), 0);
        due("sum without that one: 19, and 20 behind them", out.calm(-1), 39);
    }

    private static void bestForAll() {
        checks.under("promise 14");
        Noted x = commons(5, 10, 2);
        due("units", x.bestForAll(0), 40);
        due("surplus", x.bestForAll(1), 260);
        uses(x, 1, 2, 3);
        due("uses as they are don't matter", x.bestForAll(0), 40);
        due("nor for the surplus", x.bestForAll(1), 260);
        members(x, "uses are as they were", 1, 1, 2, 3);
        for (int what : new int[] {-1, 2, LEAST, MOST}) {
            due("bestForAll(" + what + ")", x.bestForAll(what), INVALID);
        }
        Noted nobody = new Noted();
        due("nobody's units", nobody.bestForAll(0), 0);
        due("nobody's surplus", nobody.bestForAll(1), 0);
        Noted poor = commons(1);
        poor.set(0, 1);
        due("worth as great as the damage", poor.bestForAll(0), 0);
        Noted rich = commons(30, 30, 30, 30, 30, 30, 30, 30);
        rich.set(0, 200);
        due("all units that there are", rich.bestForAll(0), 160);
        due("their surplus", rich.bestForAll(1), 4800 - 128);
        Noted stops = commons(1, 1, 1);
        due("it stops at the first unit that is not worth it", stops.bestForAll(0), 6);
        due("its surplus", stops.bestForAll(1), 6);
        Noted out = commons(5, 30, 5);
        settings(out, 1, 46, 0, 999);
        uses(out, 2, 3, 3);
        out.close();
        out.set(0, 200);
        due("the worthiest is out", out.count(7), 2);
        due("not of one who is out", out.bestForAll(0), 40);
        due("surplus without that one", out.bestForAll(1), 200 - 8);
    }

    private static void wouldExclude() {
        checks.under("promise 15");
        due("nobody", new Noted().wouldExclude(), 0);
        Noted x = commons(1, 1, 1);
        settings(x, 1, 47, 0, 38);
        due("no use", x.wouldExclude(), 0);
        uses(x, 2, 3, 3);
        due("two in turn, one by debts too", x.wouldExclude(), 6);
        due("nothing has ended", x.count(1), 0);
        members(x, "uses", 1, 2, 3, 3);
        due("states", x.count(11), 4);
        x.close();
        due("as foretold", x.count(7), 6);
        due("the next one: in turn and by debts", x.wouldExclude(), 5);
        due("still the ones of this season", x.count(7), 6);
    }

    private static void canRepair() {
        checks.under("promise 16");
        due("a new one", new Noted().canRepair(), 0);
        Noted x = commons(1);
        settings(x, 5, 0, 0, 999);
        x.use(0, 20);
        x.close();
        due("health", x.count(2), 20);
        due("no fund", x.canRepair(), 0);
        x.pay(0, 2);
        due("less than a point", x.canRepair(), 0);
        x.pay(0, 6);
        due("8 coins", x.canRepair(), 2);
        due("repair(2)", x.repair(2), 0);
        x.pay(0, 72);
        x.set(4, 1);
        due("74 coins by 1", x.canRepair(), 74);
        x.set(2, 50);
        x.close();
        due("at most what is lacking", x.canRepair(), 28);
    }

    private static void undo() {
        checks.under("promise 17");
        Noted x = new Noted();
        x.member(3);
        x.use(0, 20);
        due("undo()", x.undo(), 1);
        due("the use is gone", x.memberOf(0, 1), 0);
        due("undo()", x.undo(), 0);
        due("the member is gone", x.count(0), 0);
        due("undo()", x.undo(), NOT_POSSIBLE);

        Noted y = atLevel(46, 20);
        y.pay(1, 9);
        y.repair(5);
        y.set(0, 77);
        text(y, "m1");
        y.close();
        counts(y, "states", 11, 4);
        due("back before close", y.undo(), 3);
        counts(y, "the season", 1, 1);
        due("back before set", y.undo(), 2);
        counts(y, "the setting", 20, 1);
        due("back before repair", y.undo(), 1);
        counts(y, "before repair", 0, 3, 1, 36, 0, 0, 9, 55, 6, 64, 0, 0, 1, 2);
        due("back before pay", y.undo(), 0);
        counts(y, "before pay", 5, 0, 64);
        members(y, "paid", 4, 0, 0, 0);
        due("no more", y.undo(), NOT_POSSIBLE);

        Noted seasons = commons(1);
        for (int k = 0; k < 8; k++) {
            seasons.close();
        }
        seasons.undo();
        seasons.undo();
        due("the latest season is again", seasons.seasonOf(0, 0), 5);
        due("and the oldest kept one", seasons.seasonOf(5, 0), 0);
        for (int k = 1; k <= 9; k++) {
            seasons.set(3, k);
        }
        for (int k = 8; k >= 5; k--) {
            due("undo()", seasons.undo(), k - 5);
            due("setting 3", seasons.count(23), k);
        }
        due("no more", seasons.undo(), NOT_POSSIBLE);
    }

    private static void type() {
        checks.under("promise 18");
        Noted x = new Noted();
        for (int c : new int[] {31, 127, -1, 0, 10, LEAST, MOST}) {
            due("type(" + c + ")", x.type(c), INVALID);
        }
        due("type(32)", x.type(32), 1);
        due("type(126)", x.type(126), 2);
        for (int k = 3; k <= 60; k++) {
            due("type(99)", x.type(99), k);
        }
        due("a 61st", x.type(99), LIMIT);
        due("a 61st out of range", x.type(127), INVALID);
        due("length", x.count(12), 60);
        due("no change", x.count(11), 0);
    }

    private static void clearText() {
        checks.under("promise 19");
        Noted x = new Noted();
        due("clearText()", x.clearText(), 0);
        text(x, "m1;x");
        due("clearText()", x.clearText(), 4);
        due("length", x.count(12), 0);
        due("no fault", x.fault(0), NOT_FOUND);
        due("type(109)", x.type(109), 1);
        due("no change", x.count(11), 0);
    }

    private static void faultIs(Noted x, String text, int at, int reason, int cause) {
        text(x, text);
        due("fault(0) of " + text, x.fault(0), at);
        due("fault(1) of " + text, x.fault(1), reason);
        due("fault(2) of " + text, x.fault(2), cause);
        due("play() of " + text, x.play(), NOT_POSSIBLE);
    }

    private static void fault() {
        checks.under("promise 20");
        Noted x = new Noted();
        text(x, "m1;u0,20;c;p0,1;r1;");
        for (int what = 0; what < 3; what++) {
            due("fault(" + what + ") of no fault", x.fault(what), NOT_FOUND);
        }
        for (int what : new int[] {-1, 3, LEAST, MOST}) {
            due("fault(" + what + ")", x.fault(what), INVALID);
        }
        faultIs(x, "c;", 0, 2, NOT_POSSIBLE);
        faultIs(x, "m31;", 0, 2, INVALID);
        faultIs(x, "m1;m1;m1;m1;m1;m1;m1;m1;m1;", 24, 2, LIMIT);
        faultIs(x, "m1;u1,0;", 3, 2, INVALID);
        faultIs(x, "m1;u0,21;x", 3, 2, INVALID);
        faultIs(x, "m1;u0,20;c;p0,11;", 11, 2, NOT_POSSIBLE);
        faultIs(x, "m1;u0,20;c;p0,0;", 11, 2, INVALID);
        faultIs(x, "m1;u0,20;c;p1,1;", 11, 2, INVALID);
        faultIs(x, "m1;u0,20;c;r6;", 11, 2, NOT_POSSIBLE);
        faultIs(x, "r0;", 0, 2, INVALID);
        faultIs(x, "r101;", 0, 2, INVALID);
        due("nothing is done", x.count(0), 0);
        due("no change", x.count(11), 0);
        Noted out = atLevel(46, 999);
        faultIs(out, "u0,1;u1,1;", 5, 2, NOT_POSSIBLE);
        x.member(2);
        text(x, "u0,3;");
        due("in the present state", x.fault(0), NOT_FOUND);
    }

    private static void faultForms() {
        checks.under("promise 20, forms");
        Noted x = commons(1, 1);
        String[] wrong = {"c", "m", "m;", "m1", "m1000;", "m0001;", "M1;", " c;", "c ;", ";", "c1;", "m 1;", "m1 ;",
            "m-1;", "m1,2;", "u", "u0", "u0;", "u0,;", "u,1;", "u0,1", "u0,1,", "u0,1000;", "u0000,1;", "u0 ,1;",
            "u0.1;", "p0;", "p,;", "p0,", "p0,0001;", "r;", "r1,1;", "r", "x;", "1;", "m1:", "m1/;", "/", "m/;", "m:;"};
        for (String text : wrong) {
            faultIs(commons(1, 1), text, 0, 1, NOT_FOUND);
            faultIs(commons(1, 1), "c;" + text, 2, 1, NOT_FOUND);
        }
        faultIs(x, "c;c;;", 4, 1, NOT_FOUND);
        text(x, "m000;m01;m030;u001,020;c;");
        due("0 ahead", x.fault(0), NOT_FOUND);
        due("play()", x.play(), 5);
        members(x, "worths", 0, 1, 1, 0, 1, 30);
        members(x, "used", 5, 0, 20, 0);
        faultIs(x, "u999,0;", 0, 2, INVALID);
        faultIs(x, "p0,999;", 0, 2, NOT_POSSIBLE);
    }

    private static void play() {
        checks.under("promise 21");
        Noted x = new Noted();
        due("play() of nothing", x.play(), 0);
        due("it is a change", x.count(11), 1);
        text(x, "m9;u0,20;c;p0,5;r1;");
        due("play()", x.play(), 5);
        counts(x, "played", 0, 1, 1, 96, 0, 0, 2, 5, 0, 10, 0, 1, 2, 19);
        due("play() again", x.play(), 5);
        due("a member more", x.count(0), 2);
        due("undo()", x.undo(), 2);
        due("a member less", x.count(0), 1);
        due("undo()", x.undo(), 1);
        counts(x, "before", 0, 0, 0, 100, 0, 0, 0, 0, 0, 0, 0, 0, 1, 19);
        due("the same once more", x.play(), 5);
        text(x, "m1;m2;zz");
        due("play() of a fault", x.play(), NOT_POSSIBLE);
        due("nothing of it is done", x.count(0), 1);
        due("and it is no change", x.count(11), 2);
        text(x, "c;c;c;c;c;c;c;c;c;c;c;c;c;c;c;c;c;c;c;c;c;c;c;c;c;c;c;c;c;c;");
        due("as many as there can be", x.play(), 30);
        due("one change", x.undo(), 2);
    }

    private static void lastSeason() {
        checks.under("promise 4, the last season");
        Noted x = commons(1);
        text(x, "c;c;c;c;c;c;c;c;c;c;c;c;c;c;c;c;c;c;c;c;c;c;c;c;c;c;c;c;c;c;");
        for (int k = 0; k < 33; k++) {
            x.play();
        }
        due("after 990", x.count(1), 990);
        due("play()", x.play(), NOT_POSSIBLE);
        due("fault(0)", x.fault(0), 18);
        due("fault(2)", x.fault(2), LIMIT);
        for (int k = 0; k < 9; k++) {
            due("close()", x.close(), 0);
        }
        due("close() after 999", x.close(), LIMIT);
        due("the season", x.count(1), 999);
        due("the latest", x.seasonOf(0, 0), 998);
        due("a use is still declared", x.use(0, 20), 10);
        x.set(3, 9);
        due("if it ended now", x.wouldExclude(), 1);
        due("undo()", x.undo(), 3);
    }
}
