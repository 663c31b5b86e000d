import java.util.Random;

/** Long runs of drawn calls (always the same ones), each answer compared with that of the model. */
public final class ModelTest {
    private static final int CALLS = 512;
    private static final int CALLS_OF_A_LOOK = 320;
    private static final Checks checks = new Checks();

    private final CommonsTurns real = new CommonsTurns();
    private final Model model = new Model();
    private final Random draw;
    /** Wishes of this run: how much is used, and how often something out of range is asked. */
    private final int eagerness;
    private final int folly;
    private int calls;

    private ModelTest(long seed) {
        draw = new Random(seed);
        eagerness = draw.nextInt(4);
        folly = 4 + draw.nextInt(30);
        checks.under("run " + seed);
    }

    public static void main(String[] args) {
        for (long seed = 1; seed <= 1500 && checks.wrong() == 0; seed++) {
            new ModelTest(seed).run();
        }
        checks.end();
    }

    /** Half of the runs are drawn calls alone, the others end with a look at everything. */
    private void run() {
        int drawn = draw.nextBoolean() ? CALLS : draw.nextInt(CALLS - CALLS_OF_A_LOOK);
        while (calls < drawn && checks.wrong() == 0) {
            oneCall();
        }
        if (calls + CALLS_OF_A_LOOK <= CALLS) {
            compareAll();
        }
    }

    private int upTo(int most) {
        return draw.nextInt(most + 1);
    }

    /** Mostly a number in the range, now and then one at its ends or beyond. */
    private int near(int least, int most) {
        if (draw.nextInt(folly) != 0) {
            return most < least ? least : least + upTo(most - least);
        }
        int[] odd = {least - 1, least, most, most + 1, -1, Integer.MIN_VALUE, Integer.MAX_VALUE, least - 2};
        return odd[draw.nextInt(odd.length)];
    }

    private int someMember() {
        return near(0, model.world.people.size() - 1);
    }

    private int someUnits() {
        return eagerness == 0 ? near(0, 3) : eagerness == 1 ? near(15, 20) : near(0, 20);
    }

    private void oneCall() {
        int kind = calls < 6 ? draw.nextInt(12) : draw.nextInt(100);
        if (kind < 5) {
            int worth = near(0, 30);
            due("member(" + worth + ")", real.member(worth), model.member(worth));
        } else if (kind < 30) {
            int m = someMember();
            int u = someUnits();
            due("use(" + m + ", " + u + ")", real.use(m, u), model.use(m, u));
        } else if (kind < 45) {
            due("close()", real.close(), model.close());
        } else if (kind < 52) {
            payOrRepair();
        } else if (kind < 58) {
            int what = near(0, 4);
            int value = someSetting(what);
            due("set(" + what + ", " + value + ")", real.set(what, value), model.set(what, value));
        } else if (kind < 62) {
            due("undo()", real.undo(), model.undo());
        } else if (kind < 72) {
            text();
        } else {
            ask();
        }
    }

    private int someSetting(int what) {
        switch (what) {
            case 0:
                return draw.nextBoolean() ? near(1, 200) : near(1, 6);
            case 1:
                return near(0, 100);
            case 2:
                return near(0, 50);
            case 3:
                return near(0, 999);
            default:
                return near(1, 20);
        }
    }

    private void payOrRepair() {
        if (draw.nextInt(3) == 0) {
            int points = draw.nextBoolean() ? near(1, 100) : near(1, Math.max(1, 100 - (int) model.world.health));
            due("repair(" + points + ")", real.repair(points), model.repair(points));
            return;
        }
        int m = someMember();
        int owed = Math.max(0, model.memberOf(m, 3));
        int coins = near(1, Math.min(999, Math.max(1, owed)));
        due("pay(" + m + ", " + coins + ")", real.pay(m, coins), model.pay(m, coins));
    }

    private void text() {
        int kind = draw.nextInt(10);
        if (kind == 0) {
            due("clearText()", real.clearText(), model.clearText());
        } else if (kind < 3) {
            due("play() of " + model.text, real.play(), model.play());
        } else if (kind < 5) {
            int c = draw.nextInt(3) == 0 ? near(32, 126) : "mucpr0123;,".charAt(draw.nextInt(11));
            due("type(" + c + ")", real.type(c), model.type(c));
        } else {
            String command = someCommand();
            for (int k = 0; k < command.length() && calls < CALLS; k++) {
                int c = command.charAt(k);
                due("type(" + c + ")", real.type(c), model.type(c));
            }
        }
    }

    private String someCommand() {
        switch (draw.nextInt(6)) {
            case 0:
                return "m" + number(Math.abs(near(0, 30) % 1500)) + ";";
            case 1:
            case 2:
                return "u" + number(Math.abs(someMember() % 1500)) + "," + number(Math.abs(someUnits() % 1500)) + ";";
            case 3:
                return "p" + number(Math.abs(someMember() % 1500)) + "," + upTo(9) + ";";
            case 4:
                return "r" + number(upTo(20)) + ";";
            default:
                return "c;";
        }
    }

    private String number(int n) {
        return draw.nextInt(4) == 0 ? "0" + n : String.valueOf(n);
    }

    private void ask() {
        int what = draw.nextInt(10);
        int m = someMember();
        if (what == 0) {
            int k = near(0, 9);
            due("memberOf(" + m + ", " + k + ")", real.memberOf(m, k), model.memberOf(m, k));
        } else if (what == 1) {
            int k = draw.nextBoolean() ? near(0, 12) : near(20, 24);
            due("count(" + k + ")", real.count(k), model.count(k));
        } else if (what == 2) {
            int index = near(0, 6);
            int k = near(0, 4);
            due("seasonOf(" + index + ", " + k + ")", real.seasonOf(index, k), model.seasonOf(index, k));
        } else if (what == 3) {
            int u = near(0, 20);
            due("gain(" + m + ", " + u + ")", real.gain(m, u), model.gain(m, u));
        } else if (what == 4) {
            due("bestUse(" + m + ")", real.bestUse(m), model.bestUse(m));
        } else if (what == 5) {
            int k = near(-2, 7);
            due("calm(" + k + ")", real.calm(k), model.calm(k));
        } else if (what == 6) {
            int k = near(0, 1);
            due("bestForAll(" + k + ")", real.bestForAll(k), model.bestForAll(k));
        } else if (what == 7) {
            due("wouldExclude()", real.wouldExclude(), model.wouldExclude());
        } else if (what == 8) {
            due("canRepair()", real.canRepair(), model.canRepair());
        } else {
            int k = near(0, 2);
            due("fault(" + k + ") of " + model.text, real.fault(k), model.fault(k));
        }
    }

    private void compareAll() {
        for (int m = -1; m <= 8; m++) {
            for (int what = -1; what <= 10; what++) {
                due("memberOf(" + m + ", " + what + ")", real.memberOf(m, what), model.memberOf(m, what));
            }
            due("bestUse(" + m + ")", real.bestUse(m), model.bestUse(m));
            due("calm(" + (m - 1) + ")", real.calm(m - 1), model.calm(m - 1));
            for (int units : new int[] {-1, 0, 1, 11, 20, 21}) {
                due("gain(" + m + ", " + units + ")", real.gain(m, units), model.gain(m, units));
            }
        }
        for (int what = -2; what <= 26; what++) {
            due("count(" + what + ")", real.count(what), model.count(what));
        }
        for (int index = -1; index <= 7; index++) {
            for (int what = -1; what <= 5; what++) {
                due("seasonOf(" + index + ", " + what + ")",
                    real.seasonOf(index, what), model.seasonOf(index, what));
            }
        }
        for (int what = -1; what <= 3; what++) {
            due("bestForAll(" + what + ")", real.bestForAll(what), model.bestForAll(what));
            due("fault(" + what + ")", real.fault(what), model.fault(what));
        }
        due("wouldExclude()", real.wouldExclude(), model.wouldExclude());
        due("canRepair()", real.canRepair(), model.canRepair());
    }

    private void due(String what, int got, int want) {
        calls++;
        checks.due("call " + calls + ": " + what, got, want);
    }
}
