import java.util.NoSuchElementException;

/** Compares answers with those that are due, and ends a test with exit code 1 if one was wrong. */
final class Due {
    private static int asked = 0;
    private static int wrong = 0;

    private Due() {
    }

    static void is(String call, long got, long want) {
        asked++;
        if (got != want) {
            wrong++;
            System.out.println(call + " answered " + got + ", due is " + want);
        }
    }

    static void yes(String call, boolean got) {
        is(call, got ? 1 : 0, 1);
    }

    static void no(String call, boolean got) {
        is(call, got ? 1 : 0, 0);
    }

    static void refused(TwoLakes x, int a, int b, int world) {
        boolean thrown = false;
        try {
            x.done(a, b, world);
        } catch (NoSuchElementException e) {
            thrown = true;
        }
        yes("done(" + a + ", " + b + ", " + world + ") throws NoSuchElementException", thrown);
    }

    /** All nine counts, in their order. */
    static void counts(String call, TwoLakes x, int... want) {
        for (int what = 0; what < want.length; what++) {
            is(call + ": count(" + what + ")", x.count(what), want[what]);
        }
    }

    static void end() {
        System.out.println(asked + " answers, " + wrong + " not as due");
        if (wrong != 0) {
            System.exit(1);
        }
    }
}
