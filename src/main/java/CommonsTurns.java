/** A commons and who pays for it. What each call does stands in DOC.md, by its promises. */
public final class CommonsTurns {
    public static final int INVALID_ARGUMENT = -10001;
    public static final int NOT_POSSIBLE = -10002;
    public static final int LIMIT_REACHED = -10003;
    public static final int NOT_FOUND = -10004;

    private static final int MOST_MEMBERS = 8;
    private static final int MOST_WORTH = 30;
    private static final int MOST_UNITS = 20;
    private static final int MOST_COINS = 999;
    private static final int MOST_POINTS = 100;
    private static final int MOST_SEASONS = 999;
    private static final int MOST_ROUNDS = 40;
    private static final int MOST_STATES = 4;
    private static final int MOST_SIGNS = 60;
    private static final int FULL_HEALTH = 100;
    private static final int HEALTH_FOR_ONE_TURN = 10;
    private static final int GAIN_LIFT = 10000;

    private static final int DIVISOR = 0;
    private static final int HEALTH_LEVEL = 1;
    private static final int GROWTH = 2;
    private static final int MOST_OWED = 3;
    private static final int POINT_COST = 4;
    private static final int SETTINGS = 5;
    private static final int[] SETTING_LEAST = {1, 0, 0, 0, 1};
    private static final int[] SETTING_MOST = {200, 100, 50, 999, 20};

    private static final int KEPT_SEASONS = 6;
    private static final int SEASON_ROW = 5;

    private static final int REASON_NONE = 0;
    private static final int REASON_FORM = 1;
    private static final int REASON_STATE = 2;

    private final Commons now;
    /** Where changes are tried first, so that one that fails leaves nothing behind. */
    private final Commons trial;
    private final History history;
    private final Text text;
    private final Rehearsal rehearsal;

    public CommonsTurns() {
        now = new Commons();
        trial = new Commons();
        history = new History();
        text = new Text();
        rehearsal = new Rehearsal();
    }

    // ---- members, use

    public int member(int worth) {
        trial.takeOver(now);
        return keptIfDone(trial.addMember(worth));
    }

    public int use(int member, int units) {
        trial.takeOver(now);
        return keptIfDone(trial.declareUse(member, units));
    }

    public int close() {
        trial.takeOver(now);
        return keptIfDone(trial.closeSeason());
    }

    // ---- coins, repairs

    public int pay(int member, int coins) {
        trial.takeOver(now);
        return keptIfDone(trial.payCoins(member, coins));
    }

    public int repair(int points) {
        trial.takeOver(now);
        return keptIfDone(trial.repairPoints(points));
    }

    public int set(int what, int value) {
        trial.takeOver(now);
        return keptIfDone(trial.changeSetting(what, value));
    }

    // ---- what there is

    public int memberOf(int member, int what) {
        return now.numberOfMember(member, what);
    }

    public int count(int what) {
        if (what == 11) {
            return history.length;
        }
        if (what == 12) {
            return text.length;
        }
        return now.numberOfAll(what);
    }

    public int seasonOf(int index, int what) {
        return now.numberOfSeason(index, what);
    }

    // ---- what would be

    public int gain(int member, int units) {
        return now.liftedGain(member, units);
    }

    public int bestUse(int member) {
        return now.has(member) ? now.bestUnits(member) : INVALID_ARGUMENT;
    }

    public int calm(int member) {
        if (!now.has(member) && member != -1 && member != -2) {
            return INVALID_ARGUMENT;
        }
        trial.takeOver(now);
        int rounds = trial.calmDown();
        if (rounds == NOT_FOUND || member == -2) {
            return rounds;
        }
        return trial.has(member) ? trial.uses[member] : trial.allUnits();
    }

    public int bestForAll(int what) {
        if (what != 0 && what != 1) {
            return INVALID_ARGUMENT;
        }
        trial.takeOver(now);
        int surplus = trial.useBestForAll();
        return what == 0 ? trial.allUnits() : surplus;
    }

    public int wouldExclude() {
        trial.takeOver(now);
        trial.endSeason();
        return trial.out;
    }

    public int canRepair() {
        return now.pointsFromFund();
    }

    public int undo() {
        if (history.length == 0) {
            return NOT_POSSIBLE;
        }
        history.restoreLatest(now);
        return history.length;
    }

    // ---- texts

    public int type(int character) {
        return text.append(character);
    }

    public int clearText() {
        int had = text.length;
        text.length = 0;
        return had;
    }

    public int fault(int what) {
        if (what < 0 || what > 2) {
            return INVALID_ARGUMENT;
        }
        rehearse();
        if (rehearsal.reason == REASON_NONE) {
            return NOT_FOUND;
        }
        if (what == 0) {
            return rehearsal.start;
        }
        if (what == 1) {
            return rehearsal.reason;
        }
        return rehearsal.reason == REASON_FORM ? NOT_FOUND : rehearsal.cause;
    }

    public int play() {
        rehearse();
        return keptIfDone(rehearsal.reason == REASON_NONE ? rehearsal.done : NOT_POSSIBLE);
    }

    // ---- what the calls share

    /** Makes the trial the present state, and a change of it, unless the answer is an error. */
    private int keptIfDone(int answer) {
        if (answer >= 0) {
            history.record(now);
            now.takeOver(trial);
        }
        return answer;
    }

    /** Does the commands of the text in the trial, up to the first that is not possible. */
    private void rehearse() {
        trial.takeOver(now);
        rehearsal.begin();
        text.next = 0;
        for (int k = 0; k < MOST_SIGNS && text.next < text.length; k++) {
            rehearsal.start = text.next;
            if (!text.readCommand()) {
                rehearsal.reason = REASON_FORM;
                return;
            }
            if (rehearsal.isStoppedBy(commandOnTrial())) {
                return;
            }
        }
    }

    private int commandOnTrial() {
        switch (text.kind) {
            case 'm':
                return trial.addMember(text.first);
            case 'u':
                return trial.declareUse(text.first, text.second);
            case 'c':
                return trial.closeSeason();
            case 'p':
                return trial.payCoins(text.first, text.second);
            case 'r':
                return trial.repairPoints(text.first);
            default:
                return NOT_POSSIBLE;
        }
    }

    private static boolean isUnits(int units) {
        return units >= 0 && units <= MOST_UNITS;
    }

    /** The quotient rounded down, of a number of at least 0; 0 where there is no divisor. */
    private static int quotient(int number, int divisor) {
        return divisor < 1 ? 0 : number / divisor;
    }

    private static void copyRow(int[] from, int[] to) {
        System.arraycopy(from, 0, to, 0, Math.min(from.length, to.length));
    }

    private static int sumOf(int[] row) {
        int sum = 0;
        for (int k = 0; k < row.length; k++) {
            sum += row[k];
        }
        return sum;
    }

    /** All that a change changes. Rows by members hold 0 where there is no member. */
    private static final class Commons {
        final int[] settings = {40, 40, 5, 50, 3};
        final int[] worths = new int[MOST_MEMBERS];
        final int[] uses = new int[MOST_MEMBERS];
        final int[] owed = new int[MOST_MEMBERS];
        final int[] paid = new int[MOST_MEMBERS];
        final int[] used = new int[MOST_MEMBERS];
        final int[] usedSinceTurn = new int[MOST_MEMBERS];
        final int[] seasonsOut = new int[MOST_MEMBERS];
        /** The seasons kept, a row of numbers each; the season s has the place s modulo 6. */
        final int[] ended = new int[KEPT_SEASONS * SEASON_ROW];
        int members;
        int season;
        int health = FULL_HEALTH;
        int fund;
        /** The set of those who are excluded in this season. */
        int out;
        int damageSoFar;
        int damageWithoutHealth;
        int pointsRepaired;

        void takeOver(Commons other) {
            copyRow(other.settings, settings);
            copyRow(other.worths, worths);
            copyRow(other.uses, uses);
            copyRow(other.owed, owed);
            copyRow(other.paid, paid);
            copyRow(other.used, used);
            copyRow(other.usedSinceTurn, usedSinceTurn);
            copyRow(other.seasonsOut, seasonsOut);
            copyRow(other.ended, ended);
            members = other.members;
            season = other.season;
            health = other.health;
            fund = other.fund;
            out = other.out;
            damageSoFar = other.damageSoFar;
            damageWithoutHealth = other.damageWithoutHealth;
            pointsRepaired = other.pointsRepaired;
        }

        boolean has(int member) {
            return member >= 0 && member < members && member < MOST_MEMBERS;
        }

        boolean isOut(int member) {
            return ((out >> member) & 1) == 1;
        }

        // -- damage and charges

        int allUnits() {
            return sumOf(uses);
        }

        int damageOf(int units) {
            int divisor = settings[DIVISOR];
            return divisor < 1 ? 0 : units * units / divisor;
        }

        int placeOf(int member) {
            if (members < 1) {
                return 0;
            }
            int first = season % members;
            return member >= first ? member - first : member - first + members;
        }

        int unitsAhead(int member) {
            int place = placeOf(member);
            int sum = 0;
            for (int m = 0; m < MOST_MEMBERS; m++) {
                if (placeOf(m) < place) {
                    sum += uses[m];
                }
            }
            return sum;
        }

        int chargeOf(int member) {
            return damageAdded(unitsAhead(member), uses[member]);
        }

        int damageAdded(int unitsBefore, int units) {
            return damageOf(unitsBefore + units) - damageOf(unitsBefore);
        }

        // -- changes

        int addMember(int worth) {
            if (worth < 0 || worth > MOST_WORTH) {
                return INVALID_ARGUMENT;
            }
            if (members >= MOST_MEMBERS) {
                return LIMIT_REACHED;
            }
            worths[members] = worth;
            members++;
            return members - 1;
        }

        int declareUse(int member, int units) {
            if (!has(member) || !isUnits(units)) {
                return INVALID_ARGUMENT;
            }
            if (isOut(member)) {
                return NOT_POSSIBLE;
            }
            uses[member] = units;
            return chargeOf(member);
        }

        int payCoins(int member, int coins) {
            if (!has(member) || coins < 1 || coins > MOST_COINS) {
                return INVALID_ARGUMENT;
            }
            if (owed[member] < coins) {
                return NOT_POSSIBLE;
            }
            owed[member] -= coins;
            paid[member] += coins;
            fund += coins;
            return owed[member];
        }

        int changeSetting(int what, int value) {
            if (what < 0 || what >= SETTINGS) {
                return INVALID_ARGUMENT;
            }
            if (value < SETTING_LEAST[what] || value > SETTING_MOST[what]) {
                return INVALID_ARGUMENT;
            }
            int old = settings[what];
            settings[what] = value;
            return old;
        }

        int repairPoints(int points) {
            if (points < 1 || points > MOST_POINTS) {
                return INVALID_ARGUMENT;
            }
            int cost = points * settings[POINT_COST];
            int fromFund = Math.min(cost, fund);
            int rest = cost - fromFund;
            if (health + points > FULL_HEALTH || (rest > 0 && sumOf(used) == 0)) {
                return NOT_POSSIBLE;
            }
            fund -= fromFund;
            health += points;
            pointsRepaired += points;
            oweByUses(rest);
            return rest;
        }

        /** Rounding leaves fewer coins than there are members with uses: one coin each is enough. */
        void oweByUses(int coins) {
            int all = sumOf(used);
            int left = coins;
            for (int m = 0; m < MOST_MEMBERS; m++) {
                int share = quotient(coins * used[m], all);
                owed[m] += share;
                left -= share;
            }
            for (int m = 0; m < MOST_MEMBERS; m++) {
                if (used[m] > 0 && left > 0) {
                    owed[m]++;
                    left--;
                }
            }
        }

        int pointsFromFund() {
            return Math.min(FULL_HEALTH - health, quotient(fund, settings[POINT_COST]));
        }

        // -- a season ends

        int closeSeason() {
            if (members == 0) {
                return NOT_POSSIBLE;
            }
            if (season >= MOST_SEASONS) {
                return LIMIT_REACHED;
            }
            return endSeason();
        }

        int endSeason() {
            int units = allUnits();
            int damage = damageOf(units);
            int outNow = out;
            oweCharges();
            damageSoFar += damage;
            damageWithoutHealth += Math.max(0, damage - health);
            health = Math.max(0, health - damage);
            health = Math.min(FULL_HEALTH, health + settings[GROWTH]);
            keepSeason(units, damage);
            bookUses();
            season++;
            out = 0;
            excludeInTurn(outNow);
            excludeDebtors();
            noteSeasonsOut();
            return damage;
        }

        void oweCharges() {
            int units = 0;
            int damage = 0;
            int member = members < 1 ? 0 : season % members;
            for (int place = 0; place < members; place++) {
                if (has(member)) {
                    units += uses[member];
                    owed[member] += damageOf(units) - damage;
                    damage = damageOf(units);
                }
                member = member + 1 < members ? member + 1 : 0;
            }
        }

        void keepSeason(int units, int damage) {
            int row = (season % KEPT_SEASONS) * SEASON_ROW;
            ended[row] = season;
            ended[row + 1] = units;
            ended[row + 2] = damage;
            ended[row + 3] = health;
            ended[row + 4] = out;
        }

        void bookUses() {
            for (int m = 0; m < MOST_MEMBERS; m++) {
                used[m] += uses[m];
                usedSinceTurn[m] += uses[m];
                uses[m] = 0;
            }
        }

        void noteSeasonsOut() {
            for (int m = 0; m < MOST_MEMBERS; m++) {
                if (isOut(m)) {
                    seasonsOut[m]++;
                }
            }
        }

        /** Those who were out before stay free of a turn, though not of their debts. */
        void excludeInTurn(int outBefore) {
            int turns = turnsNeeded();
            for (int k = 0; k < turns; k++) {
                int member = heaviestNotIn(outBefore | out);
                if (!has(member)) {
                    return;
                }
                out |= 1 << member;
                usedSinceTurn[member] = 0;
            }
        }

        int turnsNeeded() {
            int lacking = settings[HEALTH_LEVEL] - health;
            if (lacking <= 0) {
                return 0;
            }
            int turns = (lacking + HEALTH_FOR_ONE_TURN - 1) / HEALTH_FOR_ONE_TURN;
            return Math.min(turns, members - 1);
        }

        /** Whose use since the last turn is the greatest, the lowest of several; -1 if all are in the set. */
        int heaviestNotIn(int set) {
            int heaviest = -1;
            int most = -1;
            for (int m = 0; m < MOST_MEMBERS && m < members; m++) {
                if (((set >> m) & 1) == 0 && usedSinceTurn[m] > most) {
                    most = usedSinceTurn[m];
                    heaviest = m;
                }
            }
            return heaviest;
        }

        void excludeDebtors() {
            for (int m = 0; m < MOST_MEMBERS; m++) {
                if (owed[m] > settings[MOST_OWED]) {
                    out |= 1 << m;
                }
            }
        }

        // -- choices

        int liftedGain(int member, int units) {
            if (!has(member) || !isUnits(units)) {
                return INVALID_ARGUMENT;
            }
            if (isOut(member) && units != 0) {
                return NOT_POSSIBLE;
            }
            return gainBehind(unitsAhead(member), worths[member], units) + GAIN_LIFT;
        }

        int gainBehind(int ahead, int worth, int units) {
            return worth * units - damageAdded(ahead, units);
        }

        int bestUnits(int member) {
            if (!has(member) || isOut(member)) {
                return 0;
            }
            int ahead = unitsAhead(member);
            int best = 0;
            int mostGain = 0;
            for (int units = 1; units <= MOST_UNITS; units++) {
                int gained = gainBehind(ahead, worths[member], units);
                if (gained > mostGain) {
                    mostGain = gained;
                    best = units;
                }
            }
            return best;
        }

        /** Makes the uses calm; answers the rounds that it took, or NOT_FOUND. */
        int calmDown() {
            for (int round = 1; round <= MOST_ROUNDS; round++) {
                if (!roundChanges()) {
                    return round;
                }
            }
            return NOT_FOUND;
        }

        boolean roundChanges() {
            boolean changed = false;
            for (int m = 0; m < MOST_MEMBERS; m++) {
                int best = bestUnits(m);
                changed = changed || best != uses[m];
                uses[m] = best;
            }
            return changed;
        }

        /** Makes the uses those of the best sum for all; answers their worths less their damage. */
        int useBestForAll() {
            for (int m = 0; m < MOST_MEMBERS; m++) {
                uses[m] = 0;
            }
            int worthOfAll = 0;
            for (int units = 0; units < MOST_MEMBERS * MOST_UNITS; units++) {
                int member = worthiestWithRoom();
                if (!has(member) || worths[member] <= damageAdded(units, 1)) {
                    return worthOfAll - damageOf(units);
                }
                uses[member]++;
                worthOfAll += worths[member];
            }
            return worthOfAll - damageOf(MOST_MEMBERS * MOST_UNITS);
        }

        /** The member who gets the next unit; -1 if nobody can have one more. */
        int worthiestWithRoom() {
            int worthiest = -1;
            int most = -1;
            for (int m = 0; m < MOST_MEMBERS && m < members; m++) {
                if (uses[m] < MOST_UNITS && !isOut(m) && worths[m] > most) {
                    most = worths[m];
                    worthiest = m;
                }
            }
            return worthiest;
        }

        // -- what is told

        int numberOfMember(int member, int what) {
            if (!has(member)) {
                return INVALID_ARGUMENT;
            }
            switch (what) {
                case 0:
                    return worths[member];
                case 1:
                    return uses[member];
                case 2:
                    return chargeOf(member);
                case 3:
                    return owed[member];
                case 4:
                    return paid[member];
                case 5:
                    return used[member];
                case 6:
                    return usedSinceTurn[member];
                case 7:
                    return isOut(member) ? 1 : 0;
                case 8:
                    return seasonsOut[member];
                case 9:
                    return placeOf(member);
                default:
                    return INVALID_ARGUMENT;
            }
        }

        int numberOfAll(int what) {
            switch (what) {
                case 0:
                    return members;
                case 1:
                    return season;
                case 2:
                    return health;
                case 3:
                    return allUnits();
                case 4:
                    return damageOf(allUnits());
                case 5:
                    return fund;
                case 6:
                    return sumOf(owed);
                case 7:
                    return out;
                case 8:
                    return damageSoFar;
                case 9:
                    return damageWithoutHealth;
                case 10:
                    return pointsRepaired;
                default:
                    return what >= 20 && what < 20 + SETTINGS ? settings[what - 20] : INVALID_ARGUMENT;
            }
        }

        int numberOfSeason(int index, int what) {
            if (index < 0 || what < 0 || what >= SEASON_ROW) {
                return INVALID_ARGUMENT;
            }
            if (index >= season || index >= KEPT_SEASONS) {
                return NOT_FOUND;
            }
            return ended[((season - 1 - index) % KEPT_SEASONS) * SEASON_ROW + what];
        }
    }

    /** The latest states, in a ring: the oldest one is at the place of its name. */
    private static final class History {
        final Commons[] states = new Commons[MOST_STATES];
        int oldest;
        int length;

        History() {
            for (int k = 0; k < states.length; k++) {
                states[k] = new Commons();
            }
        }

        void record(Commons state) {
            if (length == MOST_STATES) {
                oldest = (oldest + 1) % MOST_STATES;
                length--;
            }
            Commons place = states[(oldest + length) % MOST_STATES];
            if (place != null) {
                place.takeOver(state);
            }
            length++;
        }

        void restoreLatest(Commons into) {
            if (length < 1) {
                return;
            }
            length--;
            Commons latest = states[(oldest + length) % MOST_STATES];
            if (latest != null) {
                into.takeOver(latest);
            }
        }
    }

    /** The text, and the command of it that was read last. */
    private static final class Text {
        final char[] signs = new char[MOST_SIGNS];
        int length;
        /** Where the reading goes on. */
        int next;
        int kind;
        int first;
        int second;

        int append(int character) {
            if (character < 32 || character > 126) {
                return INVALID_ARGUMENT;
            }
            if (length >= MOST_SIGNS) {
                return LIMIT_REACHED;
            }
            signs[length] = (char) character;
            length++;
            return length;
        }

        /** Reads a command with its ";"; false if what stands there is not of the form of one. */
        boolean readCommand() {
            kind = signAhead();
            next++;
            first = 0;
            second = 0;
            switch (kind) {
                case 'c':
                    break;
                case 'm':
                case 'r':
                    first = readNumber();
                    break;
                case 'u':
                case 'p':
                    first = readNumber();
                    if (!passes(',')) {
                        return false;
                    }
                    second = readNumber();
                    break;
                default:
                    return false;
            }
            return first >= 0 && second >= 0 && passes(';');
        }

        /** The sign where the reading goes on; -1 at the end. */
        int signAhead() {
            return next >= 0 && next < length && next < MOST_SIGNS ? signs[next] : -1;
        }

        boolean passes(int sign) {
            if (signAhead() != sign) {
                return false;
            }
            next++;
            return true;
        }

        /** Reads one to three digits; -1 if there is none. A fourth one is left, and fits no form. */
        int readNumber() {
            int number = -1;
            for (int digits = 0; digits < 3; digits++) {
                int sign = signAhead();
                if (sign < '0' || sign > '9') {
                    return number;
                }
                number = Math.max(number, 0) * 10 + (sign - '0');
                next++;
            }
            return number;
        }
    }

    /** How far the commands of the text went, and what stopped them. */
    private static final class Rehearsal {
        int start;
        int reason;
        int cause;
        int done;

        void begin() {
            start = 0;
            reason = REASON_NONE;
            cause = 0;
            done = 0;
        }

        boolean isStoppedBy(int answer) {
            if (answer >= 0) {
                done++;
                return false;
            }
            reason = REASON_STATE;
            cause = answer;
            return true;
        }
    }
}
