import java.util.ArrayDeque;
import java.util.ArrayList;
import java.util.Comparator;
import java.util.Deque;
import java.util.List;
import java.util.regex.Matcher;
import java.util.regex.Pattern;

/**
 * The document once more, written by its words and apart from the class, with the Java library
 * and without regard for room: what the class answers is compared with what this answers.
 */
final class Model {
    static final int INVALID = -10001;
    static final int NOT_POSSIBLE = -10002;
    static final int LIMIT = -10003;
    static final int NOT_FOUND = -10004;

    static final class Person {
        int worth;
        int use;
        long owed;
        long paid;
        long used;
        long sinceTurn;
        boolean excluded;
        int seasonsExcluded;

        Person copy() {
            Person p = new Person();
            p.worth = worth;
            p.use = use;
            p.owed = owed;
            p.paid = paid;
            p.used = used;
            p.sinceTurn = sinceTurn;
            p.excluded = excluded;
            p.seasonsExcluded = seasonsExcluded;
            return p;
        }
    }

    static final class World {
        List<Person> people = new ArrayList<>();
        List<int[]> ended = new ArrayList<>();
        int[] settings = {40, 40, 5, 50, 3};
        int season;
        long health = 100;
        long fund;
        long damages;
        long unmet;
        long repaired;

        World copy() {
            World w = new World();
            for (Person p : people) {
                w.people.add(p.copy());
            }
            w.ended.addAll(ended);
            w.settings = settings.clone();
            w.season = season;
            w.health = health;
            w.fund = fund;
            w.damages = damages;
            w.unmet = unmet;
            w.repaired = repaired;
            return w;
        }
    }

    private static final int[][] RANGES = {{1, 200}, {0, 100}, {0, 50}, {0, 999}, {1, 20}};
    private static final Pattern COMMAND =
        Pattern.compile("(?:m(\\d{1,3})|u(\\d{1,3}),(\\d{1,3})|(c)|p(\\d{1,3}),(\\d{1,3})|r(\\d{1,3}));");

    World world = new World();
    final Deque<World> past = new ArrayDeque<>();
    final StringBuilder text = new StringBuilder();

    // how the commands of the text went
    private int faultAt;
    private int faultReason;
    private int faultCause;
    private int commands;

    private static boolean within(int x, int least, int most) {
        return x >= least && x <= most;
    }

    private boolean isMember(int m) {
        return within(m, 0, world.people.size() - 1);
    }

    // ---- charges

    private static List<Integer> order(World w) {
        List<Integer> row = new ArrayList<>();
        int n = w.people.size();
        for (int k = 0; k < n; k++) {
            row.add((w.season + k) % n);
        }
        return row;
    }

    private static long damage(World w, long sum) {
        return sum * sum / w.settings[0];
    }

    private static long sum(World w) {
        return w.people.stream().mapToLong(p -> p.use).sum();
    }

    private static long[] charges(World w) {
        long[] charges = new long[w.people.size()];
        long before = 0;
        for (int m : order(w)) {
            long after = before + w.people.get(m).use;
            charges[m] = damage(w, after) - damage(w, before);
            before = after;
        }
        return charges;
    }

    private static int setOf(World w) {
        int set = 0;
        for (int m = 0; m < w.people.size(); m++) {
            set |= w.people.get(m).excluded ? 1 << m : 0;
        }
        return set;
    }

    // ---- changes, each done on a copy

    private int kept(World tried, int answer) {
        if (answer < 0) {
            return answer;
        }
        past.addLast(world);
        if (past.size() == 5) {
            past.removeFirst();
        }
        world = tried;
        return answer;
    }

    int member(int worth) {
        World w = world.copy();
        return kept(w, member(w, worth));
    }

    private static int member(World w, int worth) {
        if (!within(worth, 0, 30)) {
            return INVALID;
        }
        if (w.people.size() == 8) {
            return LIMIT;
        }
        Person p = new Person();
        p.worth = worth;
        w.people.add(p);
        return w.people.size() - 1;
    }

    int use(int member, int units) {
        World w = world.copy();
        return kept(w, use(w, member, units));
    }

    private static int use(World w, int member, int units) {
        if (!within(member, 0, w.people.size() - 1) || !within(units, 0, 20)) {
            return INVALID;
        }
        if (w.people.get(member).excluded) {
            return NOT_POSSIBLE;
        }
        w.people.get(member).use = units;
        return (int) charges(w)[member];
    }

    int close() {
        World w = world.copy();
        return kept(w, close(w));
    }

    private static int close(World w) {
        if (w.people.isEmpty()) {
            return NOT_POSSIBLE;
        }
        return w.season >= 999 ? LIMIT : end(w);
    }

    private static int end(World w) {
        long[] charges = charges(w);
        long sum = sum(w);
        long damage = damage(w, sum);
        int setBefore = setOf(w);
        for (int m = 0; m < charges.length; m++) {
            w.people.get(m).owed += charges[m];
        }
        long without = damage > w.health ? damage - w.health : 0;
        w.health -= damage - without;
        w.unmet += without;
        w.damages += damage;
        w.health += w.settings[2];
        if (w.health > 100) {
            w.health = 100;
        }
        for (Person p : w.people) {
            p.used += p.use;
            p.sinceTurn += p.use;
            p.use = 0;
        }
        w.ended.add(new int[] {w.season, (int) sum, (int) damage, (int) w.health, setBefore});
        w.season++;
        exclude(w);
        return (int) damage;
    }

    private static void exclude(World w) {
        List<Person> turn = new ArrayList<>();
        for (Person p : w.people) {
            if (!p.excluded) {
                turn.add(p);
            }
        }
        turn.sort(Comparator.comparingLong((Person p) -> -p.sinceTurn)); // stable: lower numbers stay first
        int wanted = 0;
        for (long h = w.health; h < w.settings[1]; h += 10) {
            wanted++;
        }
        wanted = Math.min(wanted, w.people.size() - 1);
        for (Person p : w.people) {
            p.excluded = p.owed > w.settings[3];
        }
        for (int k = 0; k < wanted && k < turn.size(); k++) {
            turn.get(k).excluded = true;
            turn.get(k).sinceTurn = 0;
        }
        for (Person p : w.people) {
            p.seasonsExcluded += p.excluded ? 1 : 0;
        }
    }

    int pay(int member, int coins) {
        World w = world.copy();
        return kept(w, pay(w, member, coins));
    }

    private static int pay(World w, int member, int coins) {
        if (!within(member, 0, w.people.size() - 1) || !within(coins, 1, 999)) {
            return INVALID;
        }
        Person p = w.people.get(member);
        if (p.owed < coins) {
            return NOT_POSSIBLE;
        }
        p.owed -= coins;
        p.paid += coins;
        w.fund += coins;
        return (int) p.owed;
    }

    int repair(int points) {
        World w = world.copy();
        return kept(w, repair(w, points));
    }

    private static int repair(World w, int points) {
        if (!within(points, 1, 100)) {
            return INVALID;
        }
        long all = w.people.stream().mapToLong(p -> p.used).sum();
        long cost = (long) points * w.settings[4];
        long rest = cost > w.fund ? cost - w.fund : 0;
        if (w.health + points > 100 || rest > 0 && all == 0) {
            return NOT_POSSIBLE;
        }
        w.fund -= cost - rest;
        w.health += points;
        w.repaired += points;
        long left = rest;
        for (Person p : w.people) {
            long share = all == 0 ? 0 : rest * p.used / all;
            p.owed += share;
            left -= share;
        }
        while (left > 0) {
            for (Person p : w.people) {
                if (p.used > 0 && left > 0) {
                    p.owed++;
                    left--;
                }
            }
        }
        return (int) rest;
    }

    int set(int what, int value) {
        if (!within(what, 0, 4) || !within(value, RANGES[what][0], RANGES[what][1])) {
            return INVALID;
        }
        World w = world.copy();
        int old = w.settings[what];
        w.settings[what] = value;
        return kept(w, old);
    }

    // ---- what there is

    int memberOf(int member, int what) {
        if (!isMember(member) || !within(what, 0, 9)) {
            return INVALID;
        }
        Person p = world.people.get(member);
        long[] row = {p.worth, p.use, charges(world)[member], p.owed, p.paid, p.used, p.sinceTurn,
            p.excluded ? 1 : 0, p.seasonsExcluded, order(world).indexOf(member)};
        return (int) row[what];
    }

    int count(int what) {
        if (within(what, 20, 24)) {
            return world.settings[what - 20];
        }
        if (!within(what, 0, 12)) {
            return INVALID;
        }
        long owed = world.people.stream().mapToLong(p -> p.owed).sum();
        long[] row = {world.people.size(), world.season, world.health, sum(world), damage(world, sum(world)),
            world.fund, owed, setOf(world), world.damages, world.unmet, world.repaired, past.size(), text.length()};
        return (int) row[what];
    }

    int seasonOf(int index, int what) {
        if (index < 0 || !within(what, 0, 4)) {
            return INVALID;
        }
        if (index >= Math.min(6, world.ended.size())) {
            return NOT_FOUND;
        }
        return world.ended.get(world.ended.size() - 1 - index)[what];
    }

    // ---- what would be

    private static long gain(World given, int member, int units) {
        World w = given.copy();
        w.people.get(member).use = units;
        return (long) w.people.get(member).worth * units - charges(w)[member];
    }

    int gain(int member, int units) {
        if (!isMember(member) || !within(units, 0, 20)) {
            return INVALID;
        }
        if (world.people.get(member).excluded && units != 0) {
            return NOT_POSSIBLE;
        }
        return (int) gain(world, member, units) + 10000;
    }

    private static int best(World w, int member) {
        int best = 0;
        for (int units = 0; units <= 20 && !w.people.get(member).excluded; units++) {
            if (gain(w, member, units) > gain(w, member, best)) {
                best = units;
            }
        }
        return best;
    }

    int bestUse(int member) {
        return isMember(member) ? best(world, member) : INVALID;
    }

    int calm(int member) {
        if (!isMember(member) && !within(member, -2, -1)) {
            return INVALID;
        }
        World w = world.copy();
        int round = 0;
        boolean changed = true;
        while (changed) {
            if (++round > 40) {
                return NOT_FOUND;
            }
            changed = false;
            for (int m = 0; m < w.people.size(); m++) {
                int best = best(w, m);
                changed |= best != w.people.get(m).use;
                w.people.get(m).use = best;
            }
        }
        return member == -2 ? round : member == -1 ? (int) sum(w) : w.people.get(member).use;
    }

    int bestForAll(int what) {
        if (!within(what, 0, 1)) {
            return INVALID;
        }
        List<Integer> unitWorths = new ArrayList<>();
        for (Person p : world.people) {
            for (int k = 0; k < 20 && !p.excluded; k++) {
                unitWorths.add(p.worth);
            }
        }
        unitWorths.sort(Comparator.reverseOrder());
        int units = 0;
        long worth = 0;
        for (int next : unitWorths) {
            if (next <= damage(world, units + 1) - damage(world, units)) {
                break;
            }
            worth += next;
            units++;
        }
        return what == 0 ? units : (int) (worth - damage(world, units));
    }

    int wouldExclude() {
        World w = world.copy();
        end(w);
        return setOf(w);
    }

    int canRepair() {
        int points = 0;
        while (points + 1 + world.health <= 100 && (long) (points + 1) * world.settings[4] <= world.fund) {
            points++;
        }
        return points;
    }

    int undo() {
        if (past.isEmpty()) {
            return NOT_POSSIBLE;
        }
        world = past.removeLast();
        return past.size();
    }

    // ---- texts

    int type(int character) {
        if (!within(character, 32, 126)) {
            return INVALID;
        }
        if (text.length() == 60) {
            return LIMIT;
        }
        text.append((char) character);
        return text.length();
    }

    int clearText() {
        int had = text.length();
        text.setLength(0);
        return had;
    }

    private World rehearsed() {
        World w = world.copy();
        faultAt = 0;
        faultReason = 0;
        commands = 0;
        Matcher matcher = COMMAND.matcher(text);
        while (faultAt < text.length()) {
            matcher.region(faultAt, text.length());
            if (!matcher.lookingAt()) {
                faultReason = 1;
                return w;
            }
            faultCause = done(w, matcher);
            if (faultCause < 0) {
                faultReason = 2;
                return w;
            }
            commands++;
            faultAt = matcher.end();
        }
        return w;
    }

    private static int done(World w, Matcher found) {
        if (found.group(1) != null) {
            return member(w, Integer.parseInt(found.group(1)));
        }
        if (found.group(2) != null) {
            return use(w, Integer.parseInt(found.group(2)), Integer.parseInt(found.group(3)));
        }
        if (found.group(4) != null) {
            return close(w);
        }
        if (found.group(5) != null) {
            return pay(w, Integer.parseInt(found.group(5)), Integer.parseInt(found.group(6)));
        }
        return repair(w, Integer.parseInt(found.group(7)));
    }

    int fault(int what) {
        if (!within(what, 0, 2)) {
            return INVALID;
        }
        rehearsed();
        if (faultReason == 0 || what == 2 && faultReason == 1) {
            return NOT_FOUND;
        }
        return new int[] {faultAt, faultReason, faultCause}[what];
    }

    int play() {
        World w = rehearsed();
        return faultReason == 0 ? kept(w, commands) : NOT_POSSIBLE;
    }
}
