import java.util.List;
import java.util.function.Supplier;
import java.util.function.ToIntFunction;

/** The boundaries of changes, of the history and of errors: promise 17, and the terms for all calls. */
public final class ChangesBoundsTest extends Bench {
    /** What may be called next, behind a call that has changed nothing. */
    private static final List<ToIntFunction<Noted>> NEXT = List.of(x -> x.member(3), x -> x.use(0, 7), x -> x.close(),
        x -> x.pay(0, 1), x -> x.repair(1), x -> x.set(2, 9), x -> x.calm(-1), x -> x.calm(-2), x -> x.bestForAll(0),
        x -> x.bestForAll(1), x -> x.wouldExclude(), x -> x.canRepair(), x -> x.undo(), x -> x.type('c'),
        x -> x.fault(0), x -> x.fault(1), x -> x.fault(2), x -> x.play(), x -> x.clearText());

    public static void main(String[] args) {
        undoOfNothing();
        undoAnswers();
        whatAChangeIs();
        changesThatAlterNothing();
        whatNoChangeIs();
        fourStates();
        theOldestIsDropped();
        everythingBeforeIt();
        butTheText();
        undoOfTheLimits();
        undoAndOn();
        errorsChangeNothing();
        questionsChangeNothing();
        textCallsChangeTheTextAlone();
        callsWithoutMembers();
        callsOfAFullCommons();
        the512thCall();
        checks.end();
    }

    private static void undoOfNothing() {
        sentence("promise 17", "NOT_POSSIBLE if it is empty");
        Noted x = new Noted();
        due(x.undo(), NOT_POSSIBLE);
        x.member(1);
        due(x.undo(), 0);
        due(x.undo(), NOT_POSSIBLE);
        due(x.undo(), NOT_POSSIBLE);
        due(x.count(11), 0);
        x.member(1);
        due(x.undo(), 0);
    }

    private static void undoAnswers() {
        sentence("promise 17", "Returns the number of states that are left in the history");
        Noted x = commonsOf(6);
        for (int left = 3; left >= 0; left--) {
            due(x.undo(), left);
            due(x.count(11), left);
            due(x.count(0), left + 2);
        }
        due(x.undo(), NOT_POSSIBLE);
        due(x.count(0), 2);
        sentence("promise 17", "Restores the latest state of the history, which is removed from it");
        Noted one = new Noted();
        one.set(2, 6);
        one.set(2, 7);
        one.undo();
        due(one.count(22), 6);
        one.undo();
        due(one.count(22), 5);
    }

    private static void whatAChangeIs() {
        sentence("terms", "The changes are the calls of member, use, close, pay, repair, set and play that return no error.");
        Noted x = new Noted();
        x.member(1);
        due(x.count(11), 1);
        x.use(0, 20);
        due(x.count(11), 2);
        x.close();
        due(x.count(11), 3);
        x.pay(0, 1);
        due(x.count(11), 4);
        for (int k = 0; k < 4; k++) {
            x.undo();
        }
        Noted y = new Noted();
        y.play();
        due(y.count(11), 1);
        y.set(2, 0);
        due(y.count(11), 2);
        type(y, "m1;u0,20;c;");
        y.play();
        due(y.count(11), 3);
        y.repair(1);
        due(y.count(11), 4);
        due(y.undo(), 3);
        due(y.count(10), 0);
        due(y.undo(), 2);
        due(y.count(1), 0);
        due(y.undo(), 1);
        due(y.count(22), 5);
    }

    private static void changesThatAlterNothing() {
        sentence("terms", "a change is one, also if everything is as before");
        Noted x = commons(1);
        x.set(0, 40);
        due(x.count(11), 2);
        x.use(0, 0);
        due(x.count(11), 3);
        x.use(0, 0);
        due(x.count(11), 4);
        due(x.undo(), 3);
        due(x.undo(), 2);
        due(x.undo(), 1);
        due(x.count(0), 1);
        due(x.undo(), 0);
        due(x.count(0), 0);
    }

    private static void whatNoChangeIs() {
        sentence("terms", "undo and the other calls are no changes");
        Noted x = atLevel(46, 20);
        x.undo();
        x.undo();
        due(x.count(11), 2);
        x.type('c');
        x.clearText();
        x.fault(0);
        x.memberOf(0, 0);
        x.seasonOf(0, 0);
        x.gain(0, 0);
        x.bestUse(0);
        x.calm(-1);
        x.bestForAll(0);
        x.wouldExclude();
        x.canRepair();
        due(x.count(11), 2);
    }

    private static void fourStates() {
        sentence("terms", "A history of at most 4 states is kept");
        Noted x = new Noted();
        for (int changes = 0; changes < 12; changes++) {
            due(x.count(11), Math.min(changes, 4));
            x.set(3, changes);
        }
        due(x.count(11), 4);
    }

    private static void theOldestIsDropped() {
        sentence("terms", "if there are 5 states then, the oldest one is dropped");
        for (int changes = 4; changes <= 13; changes++) {
            Noted x = new Noted();
            for (int value = 1; value <= changes; value++) {
                x.set(3, value);
            }
            for (int back = 1; back <= 4; back++) {
                due(x.undo(), 4 - back);
                due(x.count(23), changes == back ? 50 : changes - back);
            }
            due(x.undo(), NOT_POSSIBLE);
        }
    }

    private static int[] everything(Noted x) {
        int[] seen = new int[200];
        int k = 0;
        for (int what = 0; what <= 24; what++) {
            if (what < 13 || what > 19) {
                seen[k++] = x.count(what);
            }
        }
        for (int m = 0; m < Math.min(3, seen[0]); m++) {
            for (int what = 0; what < 10; what++) {
                seen[k++] = x.memberOf(m, what);
            }
        }
        for (int index = 0; index < Math.min(3, seen[1]); index++) {
            for (int what = 0; what < 5; what++) {
                seen[k++] = x.seasonOf(index, what);
            }
        }
        return seen;
    }

    private static void same(String what, Noted x, Noted y) {
        int[] ofX = everything(x);
        int[] ofY = everything(y);
        for (int k = 0; k < ofX.length; k++) {
            due(what + ", number " + k, ofX[k], ofY[k]);
        }
    }

    /** The same changes, so many of them. */
    private static Noted afterChanges(int changes) {
        Noted x = new Noted();
        for (int k = 0; k < changes; k++) {
            oneOfTheChanges(x, k);
        }
        return x;
    }

    private static void oneOfTheChanges(Noted x, int k) {
        switch (k) {
            case 0:
                due(x.set(0, 1), 40);
                return;
            case 1:
            case 2:
                due(x.member(3 * k), k - 1);
                return;
            case 3:
                due(x.use(1, 7), 49);
                return;
            case 4:
                due(x.close(), 49);
                return;
            case 5:
                due(x.pay(1, 8), 41);
                return;
            case 6:
                due(x.repair(9), 19);
                return;
            case 7:
                due(x.use(0, 9), 81);
                return;
            case 8:
                due(x.close(), 81);
                return;
            case 9:
                due(x.member(2), 2);
                return;
            case 10:
                due(x.close(), 0);
                return;
            default:
                due(x.set(4, 1), 3);
        }
    }

    private static void everythingBeforeIt() {
        sentence("terms", "each change records everything before it");
        for (int changes = 1; changes <= 12; changes++) {
            Noted x = afterChanges(changes);
            x.undo();
            same("undo of change " + changes, x, withHistoryOf(x.count(11), changes - 1));
        }
        sentence("terms", "four states back");
        for (int changes = 4; changes <= 12; changes++) {
            Noted x = afterChanges(changes);
            for (int k = 0; k < 4; k++) {
                x.undo();
            }
            same("four back from " + changes, x, withHistoryOf(0, changes - 4));
        }
    }

    /** The same state with so many in the history: changes that alter nothing fill it, and undo empties it so far. */
    private static Noted withHistoryOf(int states, int changes) {
        Noted x = new Noted();
        for (int k = 0; k < changes; k++) {
            oneOfTheChanges(x, k);
        }
        if (x.count(11) == states) {
            return x;
        }
        for (int k = 0; k < 4; k++) {
            x.set(3, x.count(23));
        }
        for (int k = 4; k > states; k--) {
            x.undo();
        }
        return x;
    }

    private static void butTheText() {
        sentence("terms", "everything before it but the text");
        Noted x = new Noted();
        type(x, "m1;");
        x.play();
        type(x, "c;");
        due(x.undo(), 0);
        due(x.count(12), 5);
        due(x.play(), 2);
        x.clearText();
        due(x.undo(), 0);
        due(x.count(12), 0);
        due(x.play(), 0);
        x.type('z');
        due(x.undo(), 0);
        due(x.fault(1), 1);
    }

    private static void undoOfTheLimits() {
        sentence("promise 17", "Restores: also what is excluded, owed and kept");
        Noted x = atLevel(46, 20);
        due(x.count(7), 6);
        x.undo();
        due(x.count(7), 0);
        due(x.use(1, 20), 484 - 4);
        due(x.seasonOf(0, 0), NOT_FOUND);
        x.undo();
        x.close();
        due(x.count(7), 6);
        x.close();
        due(x.undo(), 3);
        due(x.count(7), 6);
        due(x.use(1, 0), NOT_POSSIBLE);
    }

    private static void undoAndOn() {
        sentence("promise 17", "and changes go on from there");
        Noted x = new Noted();
        for (int value = 1; value <= 9; value++) {
            x.set(3, value);
        }
        x.undo();
        x.undo();
        due(x.count(23), 7);
        x.set(3, 100);
        due(x.count(11), 3);
        x.set(3, 101);
        x.set(3, 102);
        due(x.count(11), 4);
        int[] back = {101, 100, 7, 6};
        for (int value : back) {
            x.undo();
            due(x.count(23), value);
        }
        due(x.undo(), NOT_POSSIBLE);
        due(x.count(23), 6);
    }

    /** A call that answers so leaves all as it is, the states in the history too. */
    private static void changesNothing(String call, int answer, Supplier<Noted> given, ToIntFunction<Noted> made) {
        Noted x = given.get();
        Noted y = given.get();
        due(call, made.applyAsInt(x), answer);
        same(call, x, y);
        for (int k = 0; k < 4; k++) {
            due(call + ", undo()", x.undo(), y.undo());
            same(call + ", " + (k + 1) + " back", x, y);
        }
        for (ToIntFunction<Noted> next : NEXT) {
            x = given.get();
            y = given.get();
            made.applyAsInt(x);
            due(call + ", and then" + Noted.latestRun(), next.applyAsInt(x), next.applyAsInt(y));
            same(call + ", and then" + Noted.latestRun(), x, y);
        }
    }

    /** Three members in season 1, the member 1 out, four states in the history, a text without fault. */
    private static Noted midway() {
        Noted x = commons(9, 4, 7);
        settings(x, 1, 46, 0, 999);
        uses(x, 2, 3, 3);
        x.close();
        type(x, "u0,3;c;");
        x.pay(1, 4);
        x.use(2, 5);
        x.set(4, 2);
        x.repair(3);
        return x;
    }

    private static Noted midwayWith(String text) {
        Noted x = midway();
        text(x, text);
        return x;
    }

    private static Noted fullText() {
        return midwayWith("c;c;c;c;c;c;c;c;c;c;c;c;c;c;c;c;c;c;c;c;c;c;c;c;c;c;c;c;c;c;");
    }

    private static Noted empty() {
        Noted x = new Noted();
        type(x, "m1;");
        return x;
    }

    private static void errorsChangeNothing() {
        sentence("terms", "A call that returns an error changes nothing: member");
        changesNothing("member(31)", INVALID, () -> midway(), x -> x.member(31));
        changesNothing("member(-1)", INVALID, () -> empty(), x -> x.member(-1));
        changesNothing("a ninth member", LIMIT, () -> commonsOf(8), x -> x.member(5));
        sentence("terms", "A call that returns an error changes nothing: use");
        changesNothing("use(0, 21)", INVALID, () -> midway(), x -> x.use(0, 21));
        changesNothing("use(3, 1)", INVALID, () -> midway(), x -> x.use(3, 1));
        changesNothing("use(1, 1)", NOT_POSSIBLE, () -> midway(), x -> x.use(1, 1));
        sentence("terms", "A call that returns an error changes nothing: close");
        changesNothing("close() of nobody", NOT_POSSIBLE, () -> empty(), x -> x.close());
        changesNothing("close() of season 999", LIMIT, () -> afterSeasons(999), x -> x.close());
        sentence("terms", "A call that returns an error changes nothing: pay");
        changesNothing("pay(0, 0)", INVALID, () -> midway(), x -> x.pay(0, 0));
        changesNothing("pay(-1, 1)", INVALID, () -> midway(), x -> x.pay(-1, 1));
        changesNothing("pay(0, 999)", NOT_POSSIBLE, () -> midway(), x -> x.pay(0, 999));
        sentence("terms", "A call that returns an error changes nothing: repair");
        changesNothing("repair(101)", INVALID, () -> midway(), x -> x.repair(101));
        changesNothing("repair(62)", NOT_POSSIBLE, () -> midway(), x -> x.repair(62));
        sentence("terms", "A call that returns an error changes nothing: set");
        changesNothing("set(0, 0)", INVALID, () -> midway(), x -> x.set(0, 0));
        changesNothing("set(5, 1)", INVALID, () -> midway(), x -> x.set(5, 1));
        sentence("terms", "A call that returns an error changes nothing: undo");
        changesNothing("undo() of nothing", NOT_POSSIBLE, () -> empty(), x -> x.undo());
        sentence("terms", "A call that returns an error changes nothing: type");
        changesNothing("type(31)", INVALID, () -> midway(), x -> x.type(31));
        changesNothing("type(99) of 60", LIMIT, () -> fullText(), x -> x.type('c'));
        sentence("terms", "A call that returns an error changes nothing: play");
        changesNothing("play() of no form", NOT_POSSIBLE, () -> midwayWith("c;u0,9;c;u0"), x -> x.play());
        changesNothing("play() of c;r99;", NOT_POSSIBLE, () -> midwayWith("c;m3;c;r99;"), x -> x.play());
        sentence("terms", "A call that returns an error changes nothing: questions");
        changesNothing("memberOf(3, 0)", INVALID, () -> midway(), x -> x.memberOf(3, 0));
        changesNothing("count(13)", INVALID, () -> midway(), x -> x.count(13));
        changesNothing("seasonOf(1, 0)", NOT_FOUND, () -> midway(), x -> x.seasonOf(1, 0));
        changesNothing("gain(1, 1)", NOT_POSSIBLE, () -> midway(), x -> x.gain(1, 1));
        changesNothing("gain(0, 21)", INVALID, () -> midway(), x -> x.gain(0, 21));
        changesNothing("bestUse(3)", INVALID, () -> midway(), x -> x.bestUse(3));
        changesNothing("calm(3)", INVALID, () -> midway(), x -> x.calm(3));
        changesNothing("bestForAll(2)", INVALID, () -> midway(), x -> x.bestForAll(2));
        changesNothing("fault(3)", INVALID, () -> midway(), x -> x.fault(3));
        changesNothing("fault(0) of none", NOT_FOUND, () -> midway(), x -> x.fault(0));
    }

    private static void questionsChangeNothing() {
        sentence("terms", "what would be: nothing is changed by asking");
        changesNothing("gain(0, 20)", 9580, () -> midway(), x -> x.gain(0, 20));
        changesNothing("bestUse(0)", 0, () -> midway(), x -> x.bestUse(0));
        changesNothing("calm(-1)", 4, () -> midway(), x -> x.calm(-1));
        changesNothing("calm(-2)", 3, () -> midway(), x -> x.calm(-2));
        changesNothing("bestForAll(0)", 4, () -> midway(), x -> x.bestForAll(0));
        changesNothing("wouldExclude()", 5, () -> midway(), x -> x.wouldExclude());
        changesNothing("canRepair()", 0, () -> midway(), x -> x.canRepair());
        changesNothing("fault(0)", 2, () -> midwayWith("c;r99;"), x -> x.fault(0));
    }

    private static void textCallsChangeTheTextAlone() {
        sentence("promise 18", "Appends a character to the text, and changes nothing else");
        Noted x = midway();
        Noted y = midwayWith("u0,3;");
        due(y.type('c'), 6);
        due(y.type(';'), 7);
        same("type", x, y);
        sentence("promise 19", "Empties the text, and changes nothing else");
        due(x.clearText(), 7);
        due(y.clearText(), 7);
        same("clearText", x, y);
        due(x.undo(), 3);
        due(x.count(10), 0);
    }

    private static void callsWithoutMembers() {
        sentence("terms", "nothing there yet: each call on a new object");
        due(new Noted().member(30), 0);
        due(new Noted().use(0, 0), INVALID);
        due(new Noted().close(), NOT_POSSIBLE);
        due(new Noted().pay(0, 1), INVALID);
        due(new Noted().repair(1), NOT_POSSIBLE);
        due(new Noted().set(0, 1), 40);
        due(new Noted().memberOf(0, 0), INVALID);
        due(new Noted().count(7), 0);
        due(new Noted().seasonOf(0, 0), NOT_FOUND);
        due(new Noted().gain(0, 0), INVALID);
        due(new Noted().bestUse(0), INVALID);
        due(new Noted().calm(0), INVALID);
        due(new Noted().bestForAll(0), 0);
        due(new Noted().bestForAll(1), 0);
        due(new Noted().wouldExclude(), 0);
        due(new Noted().canRepair(), 0);
        due(new Noted().undo(), NOT_POSSIBLE);
        due(new Noted().type(32), 1);
        due(new Noted().clearText(), 0);
        due(new Noted().fault(0), NOT_FOUND);
        due(new Noted().play(), 0);
    }

    private static void callsOfAFullCommons() {
        sentence("terms", "as much as there may be: 8 members with all units at the greatest damage");
        Noted x = commons(30, 30, 30, 30, 30, 30, 30, 30);
        settings(x, 1, 100, 50, 999, 20);
        uses(x, 20, 20, 20, 20, 20, 20, 20, 20);
        due(x.wouldExclude(), 255);
        due(x.close(), 25600);
        members(x, 3, 400, 1200, 2000, 2800, 3600, 4400, 5200, 6000);
        due(x.count(7), 255);
        due(x.count(2), 50);
        due(x.repair(50), 1000);
        members(x, 3, 525, 1325, 2125, 2925, 3725, 4525, 5325, 6125);
        due(x.count(6), 26600);
        due(x.calm(-1), 0);
        due(x.bestForAll(0), 0);
        due(x.pay(7, 999), 5126);
        due(x.canRepair(), 0);
        due(x.close(), 0);
        due(x.count(7), 254);
    }

    private static void the512thCall() {
        sentence("the public face", "An object is used for at most 512 calls after it has been made");
        Noted x = commonsOf(8);
        settings(x, 1, 0, 50, 999);
        type(x, "c;c;c;c;c;c;c;c;c;c;c;c;c;c;c;c;c;c;c;c;c;c;c;c;c;c;c;c;c;c;");
        for (int k = 1; k <= 33; k++) {
            due(x.play(), 30);
        }
        int[] declared = new int[8];
        for (int call = x.calls() + 1; call <= 504; call++) {
            declared[call % 8] = call % 21;
            x.use(call % 8, call % 21);
        }
        int sum = 0;
        for (int units : declared) {
            sum += units;
        }
        due(x.count(1), 990);
        due(x.count(3), sum);
        due(x.close(), sum * sum);
        due(x.seasonOf(0, 1), sum);
        due(x.undo(), 3);
        due(x.count(3), sum);
        due(x.wouldExclude() >= 0 ? 1 : 0, 1);
        due(x.close(), sum * sum);
        due(x.calls(), 512);
    }
}
