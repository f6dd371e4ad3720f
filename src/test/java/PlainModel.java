import java.util.HashMap;
import java.util.Map;

/** The document's words put down once more, as plainly as can be and without any regard to speed. */
final class PlainModel {
    static final int NONE = -1;
    static final int NEVER = -1000000000;
    final int[] room = {40, 40};
    final int[] level = {20, 20};
    final int[] speed = {40, 40};
    final int[][] flow = new int[24][2];
    final int[][] machine = {{3, 10, 2, 10, 5}, {3, 10, 2, 10, 5}};
    final boolean[][] out = new boolean[2][24];
    final int[] reserve = new int[24];
    final int[] weight = {1, 0, 0};
    final int[][] price = new int[3][24];
    final int[] mode = {0, 0};
    final int[] starts = {0, 0};
    int reveal = 0;
    int end = 0;
    int now = 0;
    int purse = 0;

    PlainModel() {
        for (int[] row : price) {
            java.util.Arrays.fill(row, 10);
        }
    }

    int[] behind(int hour, int upper, int lower, int[] modes) {
        int down = 0;
        int lifted = 0;
        for (int k = 0; k < 2; k++) {
            down += modes[k] == 1 ? machine[k][0] : 0;
            lifted += modes[k] == 2 ? machine[k][2] : 0;
        }
        return new int[] {upper + flow[hour][0] - down + lifted, lower + down - lifted - flow[hour][1]};
    }

    boolean isLegal(int hour, int upper, int lower, int[] before, int[] modes) {
        int could = 0;
        int units = 0;
        for (int k = 0; k < 2; k++) {
            if (before[k] == 1 && modes[k] == 2 || before[k] == 2 && modes[k] == 1) {
                return false;
            }
            if (out[k][hour] && modes[k] != 0) {
                return false;
            }
            boolean free = modes[k] == 0 && !out[k][hour];
            could += free ? machine[k][1] : modes[k] == 2 ? machine[k][3] : 0;
            units += free || modes[k] == 1 ? machine[k][0] : 0;
        }
        int[] then = behind(hour, upper, lower, modes);
        if (then[0] < 0 || then[1] < 0 || then[0] > room[0] || then[1] > room[1]) {
            return false;
        }
        if (Math.abs(then[0] - upper) > speed[0] || Math.abs(then[1] - lower) > speed[1]) {
            return false;
        }
        return could >= reserve[hour] && (reserve[hour] == 0 || upper >= units);
    }

    int money(int world, int hour, int[] before, int[] modes) {
        int sum = 0;
        for (int k = 0; k < 2; k++) {
            sum += price[world][hour] * (modes[k] == 1 ? machine[k][1] : modes[k] == 2 ? -machine[k][3] : 0);
            sum -= before[k] == 0 && modes[k] != 0 ? machine[k][4] : 0;
        }
        return sum;
    }

    /** The most of one world (0 to 2) or, for -1, of all of them by their weights. */
    int most(int world, int hour, int upper, int lower, int[] before, Map<String, Integer> known) {
        if (world >= 0 && hour == 24) {
            return upper * end;
        }
        if (world < 0 && hour >= reveal) {
            int sum = 0;
            for (int w = 0; w < 3; w++) {
                int most = most(w, hour, upper, lower, before, known);
                if (most == NEVER) {
                    return NEVER;
                }
                sum += weight[w] * most;
            }
            return sum;
        }
        String key = world + " " + hour + " " + upper + " " + lower + " " + before[0] + before[1];
        Integer old = known.get(key);
        if (old != null) {
            return old;
        }
        int best = NEVER;
        for (int i = 0; i < 9; i++) {
            best = Math.max(best, with(world, hour, upper, lower, before, new int[] {i / 3, i % 3}, known));
        }
        known.put(key, best);
        return best;
    }

    int with(int world, int hour, int upper, int lower, int[] before, int[] modes, Map<String, Integer> known) {
        if (!isLegal(hour, upper, lower, before, modes)) {
            return NEVER;
        }
        int[] then = behind(hour, upper, lower, modes);
        int rest = most(world, hour + 1, then[0], then[1], modes, known);
        if (rest == NEVER) {
            return NEVER;
        }
        for (int w = 0; w < 3; w++) {
            rest += world == w ? money(w, hour, before, modes) : 0;
            rest += world < 0 ? weight[w] * money(w, hour, before, modes) : 0;
        }
        return rest;
    }

    int worthAt(int upper) {
        return most(-1, now, upper, level[1], mode, new HashMap<>());
    }

    int water(int x) {
        if (x < 0 || x >= room[0]) {
            return NEVER;
        }
        int less = worthAt(x);
        int more = worthAt(x + 1);
        return less == NEVER || more == NEVER ? NEVER : more - less;
    }

    /** The two modes of the best plan's doing of now, null if there is none. */
    int[] best(int world) {
        if (now == 24) {
            return null;
        }
        int whose = now < reveal ? -1 : world;
        Map<String, Integer> known = new HashMap<>();
        int most = most(whose, now, level[0], level[1], mode, known);
        for (int i = 0; i < 9 && most != NEVER; i++) {
            int[] modes = {i / 3, i % 3};
            if (with(whose, now, level[0], level[1], mode, modes, known) == most) {
                return modes;
            }
        }
        return null;
    }

    int legal(int a, int b) {
        if (a < 0 || a > 2 || b < 0 || b > 2 || now == 24) {
            return NONE;
        }
        return isLegal(now, level[0], level[1], mode, new int[] {a, b}) ? 1 : 0;
    }

    int doIt(int[] modes, int world) {
        int money = money(world, now, mode, modes);
        int[] then = behind(now, level[0], level[1], modes);
        for (int k = 0; k < 2; k++) {
            starts[k] += mode[k] == 0 && modes[k] != 0 ? 1 : 0;
            mode[k] = modes[k];
            level[k] = then[k];
        }
        purse += money;
        now++;
        return money;
    }

    int runs(int hours, int world) {
        int ran = 0;
        for (int i = 0; i < hours; i++) {
            int[] modes = best(world);
            if (modes == null) {
                break;
            }
            doIt(modes, world);
            ran++;
        }
        return ran;
    }

    int[] counts() {
        return new int[] {now, level[0], level[1], mode[0], mode[1], purse, starts[0], starts[1], reveal};
    }
}
