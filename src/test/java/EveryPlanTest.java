import java.util.Arrays;
import java.util.Random;

/**
 * The last HOURS of days by dice (always the same ones): every PLAN there is is written down, as the
 * document says what a PLAN is, and the best of them are looked for. Nothing is worked out backwards.
 */
public final class EveryPlanTest {
    private static final int NEVER = -1000000000;
    // Beyond that many free DOINGS there are too many PLANS to go through.
    private static final int MOST_DOINGS = 7;
    private final Random dice;
    private final String day;
    private final Counted x = new Counted();
    private final PlainModel terms = new PlainModel();
    // plan[world][hour]: a DOING, MODE of MACHINE 0 * 3 + MODE of 1.
    private final int[][] plan = new int[3][24];
    private int plans;
    private int most;
    private final int[] mostOfWorld = new int[3];
    private int leastDoing;
    private final int[] leastDoingOfWorld = new int[3];

    private EveryPlanTest(long seed) {
        dice = new Random(seed);
        day = "day " + seed;
    }

    public static void main(String[] args) {
        int none = 0;
        for (long seed = 1; seed <= 400; seed++) {
            EveryPlanTest test = new EveryPlanTest(seed);
            test.run();
            none += test.plans == 0 ? 1 : 0;
        }
        Due.yes("days without a PLAN are there, but few: " + none, none > 0 && none < 200);
        Due.end();
    }

    private void run() {
        begin(21 + upTo(2));
        setTerms();
        compare();
        int world = upTo(2);
        while (terms.now < 24 && plans > 0) {
            int doing = doingOf(world);
            Due.is(day + ": runs(1, " + world + ")", x.runs(1, world), 1);
            terms.doIt(new int[] {doing / 3, doing % 3}, world);
            Due.counts(day, x, terms.counts());
            compare();
        }
    }

    private int upTo(int n) {
        return dice.nextInt(n + 1);
    }

    /** The MACHINES may be running already when the last HOURS begin. */
    private void begin(int hour) {
        int[] room = {4 + upTo(12), 4 + upTo(12)};
        int[] level = {upTo(room[0]), upTo(room[1])};
        Due.yes(day + ": lakes", x.lakes(room[0], room[1], level[0], level[1]));
        for (int lake = 0; lake < 2; lake++) {
            terms.room[lake] = room[lake];
            terms.level[lake] = level[lake];
        }
        Days.standStill(x, hour - 1);
        terms.now = hour - 1;
        int a = upTo(2);
        int b = upTo(2);
        boolean can = terms.legal(a, b) == 1;
        int[] modes = {can ? a : 0, can ? b : 0};
        Due.is(day + ": done", x.done(modes[0], modes[1], 0), terms.doIt(modes, 0));
    }

    private void setTerms() {
        terms.reveal = 20 + upTo(4);
        // With fewer HOURS hidden there are more PLANS than can be gone through.
        while (doingsIn(terms.reveal) > MOST_DOINGS) {
            terms.reveal++;
        }
        Due.yes(day + ": reveal", x.reveal(terms.reveal));
        terms.end = upTo(3) * 5;
        Due.yes(day + ": end", x.end(terms.end));
        do {
            for (int world = 0; world < 3; world++) {
                terms.weight[world] = upTo(2);
            }
        } while (terms.weight[0] + terms.weight[1] + terms.weight[2] == 0);
        Due.yes(day + ": weights", x.weights(terms.weight[0], terms.weight[1], terms.weight[2]));
        terms.speed[0] = 2 + upTo(8);
        terms.speed[1] = 2 + upTo(8);
        Due.yes(day + ": speeds", x.speeds(terms.speed[0], terms.speed[1]));
        for (int k = 0; k < 2; k++) {
            int[] m = {upTo(4), upTo(6), upTo(4), upTo(6), upTo(9)};
            terms.machine[k] = m;
            Due.yes(day + ": machine", x.machine(k, m[0], m[1], m[2], m[3], m[4]));
        }
        for (int hour = terms.now; hour < 24; hour++) {
            setHour(hour);
        }
    }

    private void setHour(int hour) {
        for (int world = 0; world < 3; world++) {
            terms.price[world][hour] = upTo(6) - 2;
            Due.yes(day + ": price", x.price(world, hour, terms.price[world][hour]));
        }
        terms.flow[hour][0] = upTo(2);
        terms.flow[hour][1] = upTo(2);
        Due.yes(day + ": flows", x.flows(hour, terms.flow[hour][0], terms.flow[hour][1]));
        terms.reserve[hour] = upTo(2) == 0 ? upTo(4) : 0;
        Due.yes(day + ": reserve", x.reserve(hour, terms.reserve[hour]));
        for (int k = 0; k < 2; k++) {
            terms.out[k][hour] = upTo(7) == 0;
            Due.yes(day + ": out", x.out(k, hour, hour, terms.out[k][hour]));
        }
    }

    /** The DOINGS that a PLAN consists of: the hidden HOURS have one, all others have three. */
    private int doingsIn(int reveal) {
        int hidden = Math.max(0, reveal - terms.now);
        return hidden + 3 * (24 - terms.now - hidden);
    }

    private void compare() {
        goThroughAll(terms.level[0]);
        Due.is(day + ": worth()", x.worth(), most);
        for (int world = 0; world < 3 && terms.now < 24; world++) {
            int doing = plans == 0 ? -1 : doingOf(world);
            Due.is(day + ": mode(" + world + ", 0)", x.mode(world, 0), plans == 0 ? -1 : doing / 3);
            Due.is(day + ": mode(" + world + ", 1)", x.mode(world, 1), plans == 0 ? -1 : doing % 3);
        }
        int level = upTo(terms.room[0] - 1);
        goThroughAll(level + 1);
        int more = most;
        goThroughAll(level);
        int price = more == NEVER || most == NEVER ? NEVER : more - most;
        Due.is(day + ": water(" + level + ")", x.water(level), price);
        goThroughAll(terms.level[0]);
    }

    private int doingOf(int world) {
        return terms.now < terms.reveal ? leastDoing : leastDoingOfWorld[world];
    }

    /** Leaves what the best of all PLANS are, the UPPER being at that level. */
    private void goThroughAll(int upper) {
        plans = 0;
        most = NEVER;
        Arrays.fill(mostOfWorld, NEVER);
        extend(0, terms.now, upper);
    }

    /** WORLD by WORLD, HOUR by HOUR; the hidden HOURS are chosen with WORLD 0, the others have to follow. */
    private void extend(int world, int hour, int upper) {
        if (world == 3) {
            look(upper);
        } else if (hour == 24) {
            extend(world + 1, terms.now, upper);
        } else if (world > 0 && hour < terms.reveal) {
            plan[world][hour] = plan[0][hour];
            extend(world, hour + 1, upper);
        } else {
            for (int doing = 0; doing < 9; doing++) {
                plan[world][hour] = doing;
                if (isLegalUpTo(world, hour, upper)) {
                    extend(world, hour + 1, upper);
                }
            }
        }
    }

    private static int[] modes(int doing) {
        return new int[] {doing / 3, doing % 3};
    }

    private boolean isLegalUpTo(int world, int last, int upper) {
        int[] levels = {upper, terms.level[1]};
        int[] before = terms.mode;
        for (int hour = terms.now; hour <= last; hour++) {
            int[] modes = modes(plan[world][hour]);
            if (!terms.isLegal(hour, levels[0], levels[1], before, modes)) {
                return false;
            }
            levels = terms.behind(hour, levels[0], levels[1], modes);
            before = modes;
        }
        return true;
    }

    private int moneyWithEnd(int world, int upper) {
        int[] levels = {upper, terms.level[1]};
        int[] before = terms.mode;
        int money = 0;
        for (int hour = terms.now; hour < 24; hour++) {
            int[] modes = modes(plan[world][hour]);
            money += terms.money(world, hour, before, modes);
            levels = terms.behind(hour, levels[0], levels[1], modes);
            before = modes;
        }
        return money + levels[0] * terms.end;
    }

    private void look(int upper) {
        plans++;
        int worth = 0;
        int[] moneys = new int[3];
        for (int world = 0; world < 3; world++) {
            moneys[world] = moneyWithEnd(world, upper);
            worth += terms.weight[world] * moneys[world];
        }
        if (terms.now == 24) {
            most = worth;
            return;
        }
        int doing = plan[0][terms.now];
        leastDoing = worth > most ? doing : worth == most ? Math.min(leastDoing, doing) : leastDoing;
        for (int world = 0; world < 3; world++) {
            lookAtWorld(world, worth, moneys[world]);
        }
        most = Math.max(most, worth);
    }

    /** Of a WORLD with a weight the best PLANS count, of one without the PLANS with the most MONEY in it. */
    private void lookAtWorld(int world, int worth, int money) {
        int doing = plan[world][terms.now];
        int before = terms.weight[world] > 0 ? most : mostOfWorld[world];
        int found = terms.weight[world] > 0 ? worth : money;
        int least = leastDoingOfWorld[world];
        leastDoingOfWorld[world] = found > before ? doing : found == before ? Math.min(least, doing) : least;
        mostOfWorld[world] = Math.max(mostOfWorld[world], money);
    }
}
