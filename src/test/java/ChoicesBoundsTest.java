/** The boundaries of gains, best uses, calm uses and the best sum for all: promises 11 to 14, and their terms. */
public final class ChoicesBoundsTest extends Bench {
    public static void main(String[] args) {
        gainUnits();
        gainNumbers();
        gainLeastAndMost();
        gainOfTheExcluded();
        gainOfOthersAsTheyAre();
        bestUseRange();
        bestUseOfSeveral();
        bestUseOfTheExcluded();
        bestUseByTheOrder();
        calmNumbers();
        calmRounds();
        calmBeginsAsThingsAre();
        calmOfTheExcluded();
        calmWithinThreeRounds();
        bestForAllWhat();
        bestForAllNothing();
        bestForAllMost();
        bestForAllWorthOfAUnit();
        bestForAllGreatestWorth();
        bestForAllOfTheExcluded();
        bestForAllWhateverIsUsed();
        checks.end();
    }

    private static void gainUnits() {
        sentence("promise 11", "units: 0 to 20");
        Noted x = commons(5);
        due(x.gain(0, 0), 10000);
        due(x.gain(0, 1), 10005);
        due(x.gain(0, 19), 10000 + 95 - 9);
        due(x.gain(0, 20), 10000 + 100 - 10);
        sentence("promise 11", "INVALID_ARGUMENT if an argument is out of range");
        for (int units : new int[] {-1, 21, LEAST, MOST}) {
            due(x.gain(0, units), INVALID);
        }
        for (int number : new int[] {-1, 1, 8, LEAST, MOST}) {
            due(x.gain(number, 0), INVALID);
        }
        due(new Noted().gain(0, 0), INVALID);
    }

    private static void gainNumbers() {
        sentence("promise 11", "Returns the gain plus 10000");
        Noted x = commons(5, 10, 2);
        uses(x, 10, 20, 5);
        due(x.gain(0, 10), 10000 + 50 - 2);
        due(x.gain(1, 20), 10000 + 200 - 20);
        due(x.gain(2, 5), 10000 + 10 - 8);
        due(x.gain(2, 20), 10000 + 40 - 40);
        x.set(0, 20);
        due(x.gain(2, 20), 10000 + 40 - 80);
    }

    private static void gainLeastAndMost() {
        sentence("promise 11", "(it is at least -6000)");
        Noted x = commons(0, 0, 0, 0, 0, 0, 0, 0);
        x.set(0, 1);
        uses(x, 20, 20, 20, 20, 20, 20, 20, 20);
        due(x.gain(7, 20), 4000);
        due(x.gain(7, 0), 10000);
        due(x.gain(0, 20), 9600);
        sentence("promise 11", "the greatest gain of all");
        Noted rich = commons(30);
        rich.set(0, 200);
        due(rich.gain(0, 20), 10000 + 600 - 2);
    }

    private static void gainOfTheExcluded() {
        sentence("promise 11", "NOT_POSSIBLE if the member is excluded and units is not 0");
        Noted turn = atLevel(46, 999);
        due(turn.gain(1, 1), NOT_POSSIBLE);
        due(turn.gain(1, 20), NOT_POSSIBLE);
        due(turn.gain(1, 0), 10000);
        due(turn.gain(0, 1), 10000);
        Noted debts = atLevel(0, 38);
        due(debts.gain(2, 1), NOT_POSSIBLE);
        due(debts.gain(2, 0), 10000);
        due(debts.gain(1, 1), 10000);
        sentence("promise 11", "INVALID_ARGUMENT is returned rather than NOT_POSSIBLE");
        due(turn.gain(1, 21), INVALID);
        due(turn.gain(1, -1), INVALID);
        due(debts.gain(2, MOST), INVALID);
    }

    private static void gainOfOthersAsTheyAre() {
        sentence("terms", "all other uses being as they are");
        Noted x = commons(5, 10, 2);
        x.set(0, 1);
        uses(x, 1, 2, 3);
        due(x.gain(1, 20), 10000 + 200 - (441 - 1));
        due(x.gain(2, 0), 10000);
        due(x.gain(2, 1), 10000 + 2 - (16 - 9));
        members(x, 1, 1, 2, 3);
        sentence("terms", "the charge by the season's order");
        x.set(1, 0);
        x.set(3, 999);
        x.close();
        uses(x, 1, 2, 3);
        due(x.gain(1, 20), 10000 + 200 - 400);
        due(x.gain(0, 1), 10000 + 5 - (36 - 25));
    }

    private static int bestOfOne(int worth, int divisor) {
        Noted x = commons(worth);
        x.set(0, divisor);
        return x.bestUse(0);
    }

    private static void bestUseRange() {
        sentence("terms", "The best use of a member is the one (0 to 20) with the greatest gain");
        due("worth 0", bestOfOne(0, 1), 0);
        due("worth 1", bestOfOne(1, 1), 0);
        due("worth 2: 2 less 1", bestOfOne(2, 1), 1);
        due("worth 30: 450 less 225", bestOfOne(30, 1), 15);
        due("worth 30 by 2: 600 less 200", bestOfOne(30, 2), 20);
        due("worth 30 by 200", bestOfOne(30, 200), 20);
        sentence("promise 12", "INVALID_ARGUMENT");
        Noted x = commons(1, 1);
        for (int number : new int[] {-1, -2, 2, 8, LEAST, MOST}) {
            due(x.bestUse(number), INVALID);
        }
        due(new Noted().bestUse(0), INVALID);
    }

    private static void bestUseOfSeveral() {
        sentence("terms", "of several the least");
        due("no gain, no damage", bestOfOne(0, 200), 0);
        due("1 less 0, 2 less 1, 3 less 2", bestOfOne(1, 4), 1);
        due("2 less 0, 3 less 1, 4 less 2", bestOfOne(1, 8), 2);
        due("19 less 1 and 20 less 2", bestOfOne(1, 200), 19);
        due("24 less 9, as 26 less 11 and 34 less 19", bestOfOne(2, 15), 12);
    }

    private static void bestUseOfTheExcluded() {
        sentence("terms", "of one who is excluded it is 0");
        Noted turn = atLevel(46, 999);
        turn.set(0, 200);
        due(turn.bestUse(1), 0);
        due(turn.bestUse(0), 19);
        due(turn.bestUse(2), 19);
        Noted debts = atLevel(0, 38);
        debts.set(0, 200);
        due(debts.bestUse(2), 0);
        due(debts.bestUse(1), 19);
    }

    private static void bestUseByTheOrder() {
        sentence("terms", "The best use, all other uses being as they are");
        Noted x = commons(10, 10);
        x.set(0, 2);
        uses(x, 20, 20);
        due(x.bestUse(0), 9);
        due(x.bestUse(1), 0);
        members(x, 1, 20, 20);
        x.use(0, 5);
        due(x.bestUse(1), 4);
        x.set(1, 0);
        x.set(3, 999);
        x.close();
        uses(x, 20, 20);
        due(x.bestUse(1), 9);
        due(x.bestUse(0), 0);
    }

    private static void calmNumbers() {
        sentence("promise 13", "member: number of a member; -1: the sum of all; -2: how many rounds there were");
        Noted x = commons(5, 10, 2);
        uses(x, 10, 20, 5);
        due(x.calm(0), 20);
        due(x.calm(1), 20);
        due(x.calm(2), 0);
        due(x.calm(-1), 40);
        due(x.calm(-2), 2);
        sentence("promise 13", "INVALID_ARGUMENT if there is no such member and it is neither -1 nor -2");
        for (int number : new int[] {-3, 3, 4, 7, 8, LEAST, MOST}) {
            due(x.calm(number), INVALID);
        }
        due(new Noted().calm(0), INVALID);
        due(new Noted().calm(-3), INVALID);
        sentence("promise 13", "no member: a sum of 0 in a round without a change");
        due(new Noted().calm(-1), 0);
        due(new Noted().calm(-2), 1);
    }

    private static void calmRounds() {
        sentence("promise 13", "how many rounds there were, the last one included");
        Noted calm = commons(0, 0);
        due(calm.calm(-2), 1);
        calm.use(0, 1);
        due(calm.calm(-2), 2);
        calm.use(0, 0);
        calm.use(1, 1);
        due(calm.calm(-2), 2);
        Noted turned = commons(2, 30);
        turned.set(1, 0);
        turned.close();
        due(turned.calm(-2), 3);
        due(turned.calm(0), 14);
        due(turned.calm(1), 20);
        due(turned.calm(-1), 34);
        uses(turned, 14, 20);
        due(turned.calm(-2), 1);
        uses(turned, 13, 20);
        due(turned.calm(-2), 2);
        sentence("terms", "when a whole round brings no change, the uses are calm");
        Noted all = commons(30, 30, 30, 30, 30, 30, 30, 30);
        all.set(0, 200);
        due(all.calm(-1), 160);
        due(all.calm(-2), 2);
        due(all.calm(7), 20);
        uses(all, 20, 20, 20, 20, 20, 20, 20, 20);
        due(all.calm(-2), 1);
        all.use(7, 19);
        due(all.calm(-2), 2);
    }

    private static void calmBeginsAsThingsAre() {
        sentence("terms", "beginning with the uses as they are now, the members are gone through by numbers");
        Noted x = commons(10, 10);
        settings(x, 2, 0, 50, 999);
        x.close();
        uses(x, 0, 9);
        due(x.calm(-2), 1);
        uses(x, 1, 9);
        due(x.calm(-2), 2);
        uses(x, 1, 0);
        due(x.calm(-2), 3);
        due(x.calm(0), 0);
        due(x.calm(1), 9);
        sentence("promise 13", "the uses stay as they are");
        members(x, 1, 1, 0);
    }

    private static void calmOfTheExcluded() {
        sentence("terms", "each one's use becomes the best one: 0 of one who is excluded");
        Noted x = atLevel(46, 999);
        x.set(0, 200);
        due(x.calm(1), 0);
        due(x.calm(-1), 39);
        Noted all = atLevel(0, 3);
        all.set(0, 200);
        due(all.count(7), 7);
        due(all.calm(-1), 0);
        due(all.calm(-2), 1);
    }

    /** A charge depends on those ahead alone: the first in the order are calm behind round 1, all behind round 2. */
    private static void calmWithinThreeRounds() {
        sentence("terms", "If the 40th round still brings a change, there is none: it never does, so there is always one");
        for (int members = 1; members <= 8; members++) {
            for (int divisor = 1; divisor <= 200; divisor += 33) {
                Noted x = new Noted();
                settings(x, divisor, 0, 50, 999);
                for (int m = 0; m < members; m++) {
                    x.member((7 * m + 11) % 31);
                }
                for (int season = 0; season < members; season++) {
                    for (int m = 0; m < members; m++) {
                        x.use(m, (13 * m + season) % 21);
                    }
                    int rounds = x.calm(-2);
                    due("calm(-2) is " + rounds, rounds >= 1 && rounds <= 3 ? 1 : 0, 1);
                    for (int m = 0; m < members; m++) {
                        x.use(m, x.calm(m));
                    }
                    due(x.calm(-2), 1);
                    x.use(0, 0);
                    x.close();
                }
            }
        }
    }

    private static void bestForAllWhat() {
        sentence("promise 14", "what: 0: the units; 1: all worths of them together, less the damage of them");
        Noted x = commons(5, 10, 2);
        due(x.bestForAll(0), 40);
        due(x.bestForAll(1), 5 * 20 + 10 * 20 - 40);
        sentence("promise 14", "INVALID_ARGUMENT if what is out of range");
        for (int what : new int[] {-1, 2, LEAST, MOST}) {
            due(x.bestForAll(what), INVALID);
            due(new Noted().bestForAll(what), INVALID);
        }
    }

    private static void bestForAllIs(Noted x, int units, int sum) {
        due(x.bestForAll(0), units);
        due(x.bestForAll(1), sum);
    }

    private static void bestForAllNothing() {
        sentence("promise 14", "no unit, and no member");
        bestForAllIs(new Noted(), 0, 0);
        bestForAllIs(commons(0), 0, 0);
        bestForAllIs(commons(0, 0, 0, 0, 0, 0, 0, 0), 0, 0);
        Noted dear = commons(1, 1);
        dear.set(0, 1);
        bestForAllIs(dear, 0, 0);
    }

    private static void bestForAllMost() {
        sentence("terms", "each unit is given to the member who has less than 20");
        Noted one = commons(30);
        bestForAllIs(one, 20, 600 - 10);
        Noted two = commons(1, 30);
        two.set(0, 200);
        bestForAllIs(two, 24, 600 + 4 - 2);
        Noted all = commons(30, 30, 30, 30, 30, 30, 30, 30);
        all.set(0, 200);
        bestForAllIs(all, 160, 4800 - 128);
    }

    private static void bestForAllWorthOfAUnit() {
        sentence("terms", "as long as the worth is greater than the damage that this unit adds");
        Noted two = commons(2);
        two.set(0, 1);
        bestForAllIs(two, 1, 1);
        Noted three = commons(3);
        three.set(0, 1);
        bestForAllIs(three, 1, 2);
        Noted four = commons(4);
        four.set(0, 1);
        bestForAllIs(four, 2, 4);
        Noted thirty = commons(30);
        thirty.set(0, 1);
        bestForAllIs(thirty, 15, 450 - 225);
        sentence("terms", "as long as: no unit behind the first that is not worth it");
        bestForAllIs(commons(1, 1, 1), 6, 6);
        Noted one = commons(1);
        one.set(0, 200);
        bestForAllIs(one, 14, 14);
    }

    private static void bestForAllGreatestWorth() {
        sentence("terms", "given to the member with the greatest worth");
        Noted x = commons(3, 9, 5);
        x.set(0, 10);
        bestForAllIs(x, 23, 9 * 20 + 5 * 3 - 52);
        Noted same = commons(9, 9);
        same.set(0, 10);
        bestForAllIs(same, 40, 9 * 40 - 160);
    }

    private static void bestForAllOfTheExcluded() {
        sentence("terms", "and is not excluded");
        Noted x = commons(5, 30, 5);
        settings(x, 1, 46, 0, 999);
        uses(x, 2, 3, 3);
        x.close();
        due(x.count(7), 2);
        x.set(0, 200);
        bestForAllIs(x, 40, 200 - 8);
        Noted all = atLevel(0, 3);
        all.set(0, 200);
        due(all.count(7), 7);
        bestForAllIs(all, 0, 0);
    }

    private static void bestForAllWhateverIsUsed() {
        sentence("terms", "found by adding units one by one, whatever is used now");
        Noted x = commons(5, 10, 2);
        uses(x, 20, 20, 20);
        bestForAllIs(x, 40, 260);
        members(x, 1, 20, 20, 20);
    }
}
