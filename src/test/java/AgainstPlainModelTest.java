import java.util.Random;

/** Runs of calls by dice (always the same ones), each answer compared with that of the plain model. */
public final class AgainstPlainModelTest {
    private final Random dice;
    private final String run;
    private final Counted x = new Counted();
    private final PlainModel model = new PlainModel();
    // 0: few prices, so that there are many ties; 1: tame; 2: much flow and reserve; 3: all that may be.
    private final int kind;

    private AgainstPlainModelTest(long seed) {
        dice = new Random(seed);
        run = "run " + seed;
        kind = dice.nextInt(4);
    }

    public static void main(String[] args) {
        for (long seed = 1; seed <= 200; seed++) {
            new AgainstPlainModelTest(seed).run();
        }
        Due.end();
    }

    private void run() {
        setUp();
        // A round has 20 calls at most.
        while (x.callsLeft() >= 20) {
            int what = dice.nextInt(10);
            if (what < 3) {
                set(dice.nextInt(10));
            } else if (what < 5) {
                doOne();
            } else if (what == 5 && dice.nextInt(3) == 0) {
                int hours = dice.nextInt(4) == 0 ? 24 : dice.nextInt(4);
                int world = dice.nextInt(3);
                Due.is(run + ": runs(" + hours + ", " + world + ")", x.runs(hours, world), model.runs(hours, world));
            } else {
                ask();
            }
            Due.counts(run, x, model.counts());
        }
    }

    private void setUp() {
        set(0);
        int sets = dice.nextInt(60);
        for (int i = 0; i < sets; i++) {
            set(dice.nextInt(10));
        }
        for (int world = 0; world < 3; world++) {
            for (int hour = 0; hour < 24; hour++) {
                setPrice(world, hour);
            }
        }
    }

    private int upTo(int most) {
        return dice.nextInt(most + 1);
    }

    private void set(int what) {
        switch (what) {
            case 0: setLakes(); break;
            case 1: setSpeeds(); break;
            case 2: setFlows(); break;
            case 3: setMachine(); break;
            case 4: setOut(); break;
            case 5: setReserve(); break;
            case 6: setWeights(); break;
            case 7: setPrice(upTo(2), upTo(23)); break;
            case 8: setReveal(); break;
            default: setEnd(); break;
        }
    }

    private void setLakes() {
        int[] room = {1 + upTo(39), 1 + upTo(39)};
        int[] level = {upTo(room[0]), upTo(room[1])};
        boolean first = model.now == 0;
        Due.is(run + ": lakes", x.lakes(room[0], room[1], level[0], level[1]) ? 1 : 0, first ? 1 : 0);
        for (int i = 0; i < 2 && first; i++) {
            model.room[i] = room[i];
            model.level[i] = level[i];
        }
    }

    private void setSpeeds() {
        int least = kind == 3 ? 1 : 3;
        model.speed[0] = least + upTo(40 - least);
        model.speed[1] = least + upTo(40 - least);
        Due.yes(run + ": speeds", x.speeds(model.speed[0], model.speed[1]));
    }

    private void setFlows() {
        int hour = upTo(23);
        model.flow[hour][0] = upTo(kind >= 2 ? 9 : 2);
        model.flow[hour][1] = upTo(kind >= 2 ? 9 : 2);
        Due.yes(run + ": flows", x.flows(hour, model.flow[hour][0], model.flow[hour][1]));
    }

    private void setMachine() {
        int k = upTo(1);
        int most = kind == 3 && dice.nextInt(3) == 0 ? 99 : 9;
        int[] m = {upTo(most), upTo(kind == 3 ? 99 : 30), upTo(most), upTo(kind == 3 ? 99 : 30), upTo(99)};
        model.machine[k] = m;
        Due.yes(run + ": machine", x.machine(k, m[0], m[1], m[2], m[3], m[4]));
    }

    private void setOut() {
        int k = upTo(1);
        int from = upTo(23);
        int to = Math.min(23, from + upTo(5));
        boolean yes = dice.nextInt(3) > 0;
        Due.yes(run + ": out", x.out(k, from, to, yes));
        for (int hour = from; hour <= to; hour++) {
            model.out[k][hour] = yes;
        }
    }

    private void setReserve() {
        int hour = upTo(23);
        model.reserve[hour] = upTo(kind == 3 ? 99 : kind == 2 ? 30 : 8);
        Due.yes(run + ": reserve", x.reserve(hour, model.reserve[hour]));
    }

    private void setWeights() {
        int most = kind == 3 ? 9 : 2;
        int[] w = {upTo(most), upTo(most), upTo(most)};
        boolean some = w[0] + w[1] + w[2] > 0;
        Due.is(run + ": weights", x.weights(w[0], w[1], w[2]) ? 1 : 0, some ? 1 : 0);
        if (some) {
            System.arraycopy(w, 0, model.weight, 0, 3);
        }
    }

    private void setPrice(int world, int hour) {
        int n = kind == 0 ? upTo(2) * 10 : kind == 3 ? upTo(1098) - 99 : upTo(80) - 15;
        model.price[world][hour] = n;
        Due.yes(run + ": price", x.price(world, hour, n));
    }

    private void setReveal() {
        model.reveal = upTo(24);
        Due.yes(run + ": reveal", x.reveal(model.reveal));
    }

    private void setEnd() {
        model.end = dice.nextBoolean() ? upTo(60) : upTo(999);
        Due.yes(run + ": end", x.end(model.end));
    }

    private void doOne() {
        int a = upTo(2);
        int b = upTo(2);
        int world = upTo(2);
        if (model.legal(a, b) == 1) {
            Due.is(run + ": done", x.done(a, b, world), model.doIt(new int[] {a, b}, world));
        } else {
            Due.refused(x, a, b, world);
        }
    }

    private void ask() {
        for (int i = 0; i < 9; i++) {
            Due.is(run + ": legal", x.legal(i / 3, i % 3), model.legal(i / 3, i % 3));
        }
        int which = dice.nextInt(3);
        if (which == 0) {
            Due.is(run + ": worth()", x.worth(), model.worthAt(model.level[0]));
        } else if (which == 1) {
            int level = upTo(42) - 1;
            Due.is(run + ": water(" + level + ")", x.water(level), model.water(level));
        } else {
            int world = upTo(2);
            int[] best = model.best(world);
            for (int k = 0; k < 2; k++) {
                Due.is(run + ": mode(" + world + ", " + k + ")", x.mode(world, k), best == null ? -1 : best[k]);
            }
        }
    }
}
