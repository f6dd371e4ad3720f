import java.util.NoSuchElementException;
import java.util.Random;

/**
 * Whatever the numbers and the hour are, no call throws but done, and that only what the document
 * names. A call that was refused leaves all counts and the worth as they were.
 */
public final class WildArgumentsTest {
    private static final int[] NUMBERS = {
        Integer.MIN_VALUE, Integer.MIN_VALUE + 1, -1000000000, -100, -99, -1, 0, 0, 0, 1, 1, 2, 2, 3, 5, 8, 9, 10,
        20, 22, 23, 24, 25, 39, 40, 41, 99, 100, 999, 1000, 1 << 30, Integer.MAX_VALUE - 1, Integer.MAX_VALUE};
    private final Random dice;
    private final String run;
    private final Counted x = new Counted();

    private WildArgumentsTest(long seed) {
        dice = new Random(seed);
        run = "run " + seed;
    }

    public static void main(String[] args) {
        for (long seed = 1; seed <= 1200; seed++) {
            new WildArgumentsTest(seed).run();
        }
        Due.end();
    }

    private void run() {
        x.runs(dice.nextInt(3) == 0 ? dice.nextInt(25) : 0, 0);
        // One wild call and what is asked round it are 25 calls at most.
        while (x.callsLeft() >= 25) {
            callOne();
        }
    }

    private int wild() {
        return dice.nextInt(3) == 0 ? dice.nextInt(3) : NUMBERS[dice.nextInt(NUMBERS.length)];
    }

    private int[] state() {
        int[] state = new int[10];
        for (int what = 0; what < 9; what++) {
            state[what] = x.count(what);
        }
        state[9] = x.worth();
        return state;
    }

    private void callOne() {
        int[] before = state();
        int which = dice.nextInt(17);
        boolean refused = which < 10 ? !set(which) : which < 15 ? ask(which) : act(which);
        if (refused) {
            int[] behind = state();
            for (int what = 0; what < 10; what++) {
                Due.is(run + ": refused call " + which + " leaves " + what, behind[what], before[what]);
            }
        }
        Due.yes(run + ": levels", x.count(1) >= 0 && x.count(1) <= 40 && x.count(2) >= 0 && x.count(2) <= 40);
    }

    private boolean set(int which) {
        switch (which) {
            case 0: return x.lakes(wild(), wild(), wild(), wild());
            case 1: return x.speeds(wild(), wild());
            case 2: return x.flows(wild(), wild(), wild());
            case 3: return x.machine(wild(), wild(), wild(), wild(), wild(), wild());
            case 4: return x.out(wild(), wild(), wild(), dice.nextBoolean());
            case 5: return x.reserve(wild(), wild());
            case 6: return x.weights(wild(), wild(), wild());
            case 7: return x.price(wild(), wild(), wild());
            case 8: return x.reveal(wild());
            default: return x.end(wild());
        }
    }

    /** Asking never changes anything: true. */
    private boolean ask(int which) {
        switch (which) {
            case 10: x.legal(wild(), wild()); break;
            case 11: x.mode(wild(), wild()); break;
            case 12: x.water(wild()); break;
            case 13: x.count(wild()); break;
            default: x.worth(); break;
        }
        return true;
    }

    private boolean act(int which) {
        if (which == 15) {
            return x.runs(dice.nextInt(4) == 0 ? wild() : dice.nextInt(3), wild()) <= 0;
        }
        try {
            x.done(wild(), wild(), wild());
            return false;
        } catch (NoSuchElementException e) {
            return true;
        }
    }
}
