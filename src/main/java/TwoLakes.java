import java.util.Arrays;
import java.util.NoSuchElementException;

/** Two lakes, two machines between them, and the best plan for the hours that are left. */
public final class TwoLakes {
    public static final int NONE = -1;
    public static final int NEVER = -1000000000;

    private static final int HOURS = 24;
    private static final int WORLDS = 3;
    private static final int MACHINES = 2;
    private static final int MODES = 3;
    private static final int STILL = 0;
    private static final int DOWN = 1;
    private static final int UP = 2;
    // A pair of modes is one number, mode of machine 0 * MODES + mode of machine 1: counting
    // upwards through them is then the very order in which the document breaks ties.
    private static final int PAIRS = 9;
    private static final int MOST_ROOM = 40;
    private static final int LEVELS = 41;
    private static final int MOST_FLOW = 9;
    private static final int MOST_OF_MACHINE = 99;
    private static final int MOST_RESERVE = 99;
    private static final int MOST_WEIGHT = 9;
    private static final int LEAST_PRICE = -99;
    private static final int MOST_PRICE = 999;
    // Below NEVER, so that neither a worth nor a pair of modes can be mistaken for it.
    private static final int UNKNOWN = -2000000000;

    private final Lakes basin = new Lakes();
    private final Machine first = new Machine();
    private final Machine second = new Machine();
    private final Doings doings = new Doings(basin, first, second);
    private final Outlook[] outlooks = new Outlook[WORLDS];
    private final Outlook common = new Outlook();
    private final int[] weight = new int[WORLDS];
    // What has been worked out since the last change, so that asking twice costs nothing.
    private final int[] knownWorth = new int[LEVELS];
    private final int[] knownDoing = new int[WORLDS];
    private int revealHour = 0;
    private int endPrice = 0;
    private int now = 0;
    private int purse = 0;

    public TwoLakes() {
        for (int world = 0; world < WORLDS; world++) {
            outlooks[world] = new Outlook();
        }
        weight[0] = 1;
        Arrays.fill(knownWorth, UNKNOWN);
        Arrays.fill(knownDoing, UNKNOWN);
    }

    public boolean lakes(int a, int b, int upper, int lower) {
        if (now != 0 || !within(a, 1, MOST_ROOM) || !within(b, 1, MOST_ROOM)) {
            return false;
        }
        if (!within(upper, 0, a) || !within(lower, 0, b)) {
            return false;
        }
        basin.upperRoom = a;
        basin.lowerRoom = b;
        basin.upper = upper;
        basin.lower = lower;
        return changed();
    }

    public boolean speeds(int upper, int lower) {
        if (!within(upper, 1, MOST_ROOM) || !within(lower, 1, MOST_ROOM)) {
            return false;
        }
        basin.upperSpeed = upper;
        basin.lowerSpeed = lower;
        return changed();
    }

    public boolean flows(int hour, int in, int out) {
        if (!isHour(hour) || !within(in, 0, MOST_FLOW) || !within(out, 0, MOST_FLOW)) {
            return false;
        }
        basin.inflow[hour] = in;
        basin.outflow[hour] = out;
        return changed();
    }

    public boolean machine(int k, int down, int gives, int up, int takes, int start) {
        if (!isMachine(k) || !isOfMachine(down) || !isOfMachine(gives)) {
            return false;
        }
        if (!isOfMachine(up) || !isOfMachine(takes) || !isOfMachine(start)) {
            return false;
        }
        Machine machine = machineOf(k);
        machine.down = down;
        machine.gives = gives;
        machine.lifts = up;
        machine.takes = takes;
        machine.startCost = start;
        return changed();
    }

    public boolean out(int k, int from, int to, boolean yes) {
        if (!isMachine(k) || !isHour(from) || !isHour(to) || from > to) {
            return false;
        }
        Machine machine = machineOf(k);
        for (int hour = from; hour <= to; hour++) {
            machine.isOut[hour] = yes;
        }
        return changed();
    }

    public boolean reserve(int hour, int n) {
        if (!isHour(hour) || !within(n, 0, MOST_RESERVE)) {
            return false;
        }
        basin.promised[hour] = n;
        return changed();
    }

    public boolean weights(int a, int b, int c) {
        if (!within(a, 0, MOST_WEIGHT) || !within(b, 0, MOST_WEIGHT) || !within(c, 0, MOST_WEIGHT)) {
            return false;
        }
        if (a + b + c == 0) {
            return false;
        }
        weight[0] = a;
        weight[1] = b;
        weight[2] = c;
        return changed();
    }

    public boolean price(int world, int hour, int n) {
        if (!isWorld(world) || !isHour(hour) || !within(n, LEAST_PRICE, MOST_PRICE)) {
            return false;
        }
        outlooks[world].prices[hour] = n;
        return changed();
    }

    public boolean reveal(int hour) {
        if (!within(hour, 0, HOURS)) {
            return false;
        }
        revealHour = hour;
        return changed();
    }

    public boolean end(int n) {
        if (!within(n, 0, MOST_PRICE)) {
            return false;
        }
        endPrice = n;
        return changed();
    }

    public int legal(int a, int b) {
        if (!isMode(a) || !isMode(b) || now >= HOURS) {
            return NONE;
        }
        return isLegalNow(a * MODES + b) ? 1 : 0;
    }

    public int worth() {
        return worthWith(basin.upper);
    }

    public int mode(int world, int k) {
        if (!isWorld(world) || !isMachine(k) || now >= HOURS) {
            return NONE;
        }
        int doing = bestDoing(world);
        if (doing == NONE) {
            return NONE;
        }
        return k == 0 ? doing / MODES : doing % MODES;
    }

    public int water(int x) {
        if (!within(x, 0, basin.upperRoom - 1)) {
            return NEVER;
        }
        int less = worthWith(x);
        int more = worthWith(x + 1);
        return less == NEVER || more == NEVER ? NEVER : more - less;
    }

    public int done(int a, int b, int world) throws NoSuchElementException {
        if (!isMode(a) || !isMode(b) || !isWorld(world) || now >= HOURS) {
            throw new NoSuchElementException("no such modes, no such world, or the day is over");
        }
        int doing = a * MODES + b;
        if (!isLegalNow(doing)) {
            throw new NoSuchElementException("this doing is not legal");
        }
        return carryOut(doing, world);
    }

    public int runs(int hours, int world) {
        if (!within(hours, 0, HOURS) || !isWorld(world)) {
            return NONE;
        }
        int ran = 0;
        while (ran < hours && now < HOURS) {
            int doing = bestDoing(world);
            if (doing == NONE) {
                break;
            }
            carryOut(doing, world);
            ran++;
        }
        return ran;
    }

    public int count(int what) {
        switch (what) {
            case 0: return now;
            case 1: return basin.upper;
            case 2: return basin.lower;
            case 3: return first.mode;
            case 4: return second.mode;
            case 5: return purse;
            case 6: return first.starts;
            case 7: return second.starts;
            case 8: return revealHour;
            default: return NONE;
        }
    }

    private static boolean within(int n, int least, int most) {
        return n >= least && n <= most;
    }

    private static boolean isHour(int hour) {
        return within(hour, 0, HOURS - 1);
    }

    private static boolean isWorld(int world) {
        return within(world, 0, WORLDS - 1);
    }

    private static boolean isMachine(int k) {
        return within(k, 0, MACHINES - 1);
    }

    private static boolean isMode(int mode) {
        return within(mode, 0, MODES - 1);
    }

    private static boolean isOfMachine(int n) {
        return within(n, 0, MOST_OF_MACHINE);
    }

    private Machine machineOf(int k) {
        return k == 0 ? first : second;
    }

    /** Every setter that takes its numbers ends here, so that no answer of before outlives them. */
    private boolean changed() {
        Arrays.fill(knownWorth, UNKNOWN);
        Arrays.fill(knownDoing, UNKNOWN);
        return true;
    }

    private int modesNow() {
        return first.mode * MODES + second.mode;
    }

    private boolean isLegalNow(int doing) {
        doings.lookAt(now, basin.upper + basin.lower);
        boolean follows = doings.startCost(modesNow(), doing) != NONE;
        return follows && doings.isOpen(now * PAIRS + doing, basin.upper);
    }

    /** Does a doing that is known to be legal. */
    private int carryOut(int doing, int world) {
        doings.lookAt(now, basin.upper + basin.lower);
        int at = now * PAIRS + doing;
        int money = outlooks[world].prices[now] * doings.energy[at] - doings.startCost(modesNow(), doing);
        basin.upper += doings.upperShift[at];
        basin.lower += doings.lowerShift[at];
        first.turnTo(doing / MODES);
        second.turnTo(doing % MODES);
        purse += money;
        now++;
        changed();
        return money;
    }

    private int worthWith(int upper) {
        if (knownWorth[upper] == UNKNOWN) {
            planAll(upper);
            knownWorth[upper] = common.values[upper * PAIRS + modesNow()];
        }
        return knownWorth[upper];
    }

    /** The doing of now in the best plan, NONE if there is no plan. Now must be ahead of 24. */
    private int bestDoing(int world) {
        boolean hidden = now < revealHour;
        // As long as the world is hidden all of them have the same doing.
        int at = hidden ? 0 : world;
        if (knownDoing[at] == UNKNOWN) {
            if (hidden) {
                planAll(basin.upper);
            } else {
                doings.foresee(now, basin.upper + basin.lower);
                planWorld(world);
            }
            Outlook outlook = hidden ? common : outlooks[world];
            knownDoing[at] = outlook.choices[basin.upper * PAIRS + modesNow()];
        }
        return knownDoing[at];
    }

    /** Leaves in common the worth of the best plan from now on, the upper lake being at that level. */
    private void planAll(int upper) {
        doings.foresee(now, upper + basin.lower);
        for (int world = 0; world < WORLDS; world++) {
            if (weight[world] > 0) {
                planWorld(world);
            }
        }
        mixWorlds();
        common.plan(doings, now, revealHour);
    }

    private void planWorld(int world) {
        outlooks[world].endWith(endPrice);
        outlooks[world].plan(doings, Math.max(now, revealHour), HOURS);
    }

    /**
     * Ahead of reveal one doing serves all worlds, so there they are like one world whose prices
     * and starts are the weighted sums of theirs.
     */
    private void mixWorlds() {
        common.startScale = 0;
        Arrays.fill(common.prices, 0);
        Arrays.fill(common.values, 0);
        for (int world = 0; world < WORLDS; world++) {
            if (weight[world] > 0) {
                common.mixIn(outlooks[world], weight[world]);
            }
        }
    }

    /** The lakes, what flows into and out of them, and what is promised to the net. */
    private static final class Lakes {
        private int upperRoom = MOST_ROOM;
        private int lowerRoom = MOST_ROOM;
        private int upperSpeed = MOST_ROOM;
        private int lowerSpeed = MOST_ROOM;
        private int upper = 20;
        private int lower = 20;
        private final int[] inflow = new int[HOURS];
        private final int[] outflow = new int[HOURS];
        private final int[] promised = new int[HOURS];

        /** The least level of the upper lake that leaves the lower one room for the rest. */
        private int leastUpper(int total) {
            return Math.max(0, total - lowerRoom);
        }

        private int mostUpper(int total) {
            return Math.min(upperRoom, total);
        }
    }

    private static final class Machine {
        private int down = 3;
        private int gives = 10;
        private int lifts = 2;
        private int takes = 10;
        private int startCost = 5;
        private int mode = STILL;
        private int starts = 0;
        private final boolean[] isOut = new boolean[HOURS];

        private boolean canBe(int asked, int hour) {
            return asked == STILL || !isOut[hour];
        }

        private int letDown(int asked) {
            return asked == DOWN ? down : asked == UP ? -lifts : 0;
        }

        private int energyOf(int asked) {
            return asked == DOWN ? gives : asked == UP ? -takes : 0;
        }

        /** What the net could have at once: a start downwards, or the end of pumping. */
        private int backup(int asked, int hour) {
            if (asked == UP) {
                return takes;
            }
            return asked == STILL && !isOut[hour] ? gives : 0;
        }

        private int unitsForBackup(int asked, int hour) {
            return asked == DOWN || asked == STILL && !isOut[hour] ? down : 0;
        }

        private static boolean isStart(int before, int asked) {
            return before == STILL && asked != STILL;
        }

        private static boolean canFollow(int before, int asked) {
            return before == STILL || asked == STILL || before == asked;
        }

        private void turnTo(int asked) {
            if (isStart(mode, asked)) {
                starts++;
            }
            mode = asked;
        }
    }

    /** What the nine doings do in an hour, and at which levels of the upper lake each is legal. */
    private static final class Doings {
        private final Lakes basin;
        private final Machine first;
        private final Machine second;
        // By hour * PAIRS + doing.
        private final int[] energy = new int[HOURS * PAIRS];
        private final int[] upperShift = new int[HOURS * PAIRS];
        private final int[] lowerShift = new int[HOURS * PAIRS];
        private final int[] lowest = new int[HOURS * PAIRS];
        private final int[] highest = new int[HOURS * PAIRS];
        // By doing * PAIRS + modes of the hour ahead; NONE where the one can't follow the other.
        private final int[] startCosts = new int[PAIRS * PAIRS];

        private Doings(Lakes basin, Machine first, Machine second) {
            this.basin = basin;
            this.first = first;
            this.second = second;
        }

        /**
         * The machines only move water from lake to lake: what both hold together is fixed for every
         * hour by the flows alone, and so the upper level tells the lower one in the whole plan.
         */
        private void foresee(int now, int totalNow) {
            int total = totalNow;
            for (int hour = now; hour < HOURS; hour++) {
                lookAt(hour, total);
                total += basin.inflow[hour] - basin.outflow[hour];
            }
            countStarts();
        }

        private void lookAt(int hour, int total) {
            int totalBehind = total + basin.inflow[hour] - basin.outflow[hour];
            for (int doing = 0; doing < PAIRS; doing++) {
                int at = hour * PAIRS + doing;
                measure(hour, doing);
                if (isForbidden(hour, doing)) {
                    lowest[at] = 1;
                    highest[at] = 0;
                } else {
                    // Levels ahead of the hour that are levels, and that lead to levels behind it.
                    int shift = upperShift[at];
                    int least = Math.max(basin.leastUpper(total), basin.leastUpper(totalBehind) - shift);
                    lowest[at] = Math.max(least, unitsNeeded(hour, doing));
                    highest[at] = Math.min(basin.mostUpper(total), basin.mostUpper(totalBehind) - shift);
                }
            }
        }

        private boolean isOpen(int at, int level) {
            return level >= lowest[at] && level <= highest[at];
        }

        private void measure(int hour, int doing) {
            int at = hour * PAIRS + doing;
            int a = doing / MODES;
            int b = doing % MODES;
            int drop = first.letDown(a) + second.letDown(b);
            energy[at] = first.energyOf(a) + second.energyOf(b);
            upperShift[at] = basin.inflow[hour] - drop;
            lowerShift[at] = drop - basin.outflow[hour];
        }

        /** Whether something forbids a doing whatever the levels are. */
        private boolean isForbidden(int hour, int doing) {
            int at = hour * PAIRS + doing;
            int a = doing / MODES;
            int b = doing % MODES;
            if (!first.canBe(a, hour) || !second.canBe(b, hour)) {
                return true;
            }
            if (Math.abs(upperShift[at]) > basin.upperSpeed || Math.abs(lowerShift[at]) > basin.lowerSpeed) {
                return true;
            }
            return first.backup(a, hour) + second.backup(b, hour) < basin.promised[hour];
        }

        /** The units that the promise of the hour wants in the upper lake. */
        private int unitsNeeded(int hour, int doing) {
            if (basin.promised[hour] == 0) {
                return 0;
            }
            return first.unitsForBackup(doing / MODES, hour) + second.unitsForBackup(doing % MODES, hour);
        }

        /** What the starts cost on the way from those modes to these, NONE if there is no such way. */
        private int startCost(int modes, int doing) {
            int beforeFirst = modes / MODES;
            int beforeSecond = modes % MODES;
            int a = doing / MODES;
            int b = doing % MODES;
            if (!Machine.canFollow(beforeFirst, a) || !Machine.canFollow(beforeSecond, b)) {
                return NONE;
            }
            int cost = Machine.isStart(beforeFirst, a) ? first.startCost : 0;
            return Machine.isStart(beforeSecond, b) ? cost + second.startCost : cost;
        }

        private void countStarts() {
            for (int doing = 0; doing < PAIRS; doing++) {
                for (int modes = 0; modes < PAIRS; modes++) {
                    startCosts[doing * PAIRS + modes] = startCost(modes, doing);
                }
            }
        }
    }

    /** Prices, and the best that can be had with them, worked out backwards hour by hour. */
    private static final class Outlook {
        private final int[] prices = new int[HOURS];
        private int startScale = 1;
        // By level of the upper lake * PAIRS + modes of the hour ahead.
        private int[] values = new int[LEVELS * PAIRS];
        private int[] behind = new int[LEVELS * PAIRS];
        private final int[] choices = new int[LEVELS * PAIRS];

        private Outlook() {
            Arrays.fill(prices, 10);
        }

        private void endWith(int endPrice) {
            for (int i = 0; i < LEVELS * PAIRS; i++) {
                values[i] = i / PAIRS * endPrice;
            }
        }

        private void mixIn(Outlook other, int weight) {
            startScale += weight;
            for (int hour = 0; hour < HOURS; hour++) {
                prices[hour] += weight * other.prices[hour];
            }
            for (int i = 0; i < LEVELS * PAIRS; i++) {
                boolean never = values[i] == NEVER || other.values[i] == NEVER;
                values[i] = never ? NEVER : values[i] + weight * other.values[i];
            }
        }

        /** Goes back from what values holds behind hour to - 1 to what it holds ahead of hour from. */
        private void plan(Doings doings, int from, int to) {
            for (int hour = to - 1; hour >= from; hour--) {
                int[] spare = behind;
                behind = values;
                values = spare;
                Arrays.fill(values, NEVER);
                Arrays.fill(choices, NONE);
                for (int doing = 0; doing < PAIRS; doing++) {
                    tryFromAllModes(doings, hour, doing);
                }
            }
        }

        private void tryFromAllModes(Doings doings, int hour, int doing) {
            int money = prices[hour] * doings.energy[hour * PAIRS + doing];
            for (int modes = 0; modes < PAIRS; modes++) {
                int cost = doings.startCosts[doing * PAIRS + modes];
                if (cost != NONE) {
                    tryAtAllLevels(doings, hour, doing, modes, money - cost * startScale);
                }
            }
        }

        /** Doings are tried in the order of ties, so only a better one takes the place of another. */
        private void tryAtAllLevels(Doings doings, int hour, int doing, int modes, int money) {
            int shift = doings.upperShift[hour * PAIRS + doing];
            int highest = doings.highest[hour * PAIRS + doing];
            for (int level = doings.lowest[hour * PAIRS + doing]; level <= highest; level++) {
                int rest = behind[(level + shift) * PAIRS + doing];
                int state = level * PAIRS + modes;
                if (rest != NEVER && money + rest > values[state]) {
                    values[state] = money + rest;
                    choices[state] = doing;
                }
            }
        }
    }
}
