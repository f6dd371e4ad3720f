import java.util.NoSuchElementException;

/** Compares answers with those that are due, and ends a test with exit code 1 if one was wrong. */
final class Due {
    private static int asked = 0;
    private static int wrong = 0;
    // What is being tested, told ahead of each wrong answer.
    private static String about = "";

    private Due() {
    }

    static void about(String what) {
        about = what + "\n    ";
    }

    static void is(String call, long got, long want) {
        asked++;
        if (got != want) {
            wrong++;
            System.out.println(about + call + " answered " + got + ", due is " + want);
        }
    }

    static void yes(String call, boolean got) {
        is(call, got ? 1 : 0, 1);
    }

    static void no(String call, boolean got) {
        is(call, got ? 1 : 0, 0);
    }

    static void refused(Counted x, int a, int b, int world) {
        yes("done(" + a + ", " + b + ", " + world + ") throws NoSuchElementException", isRefused(x, a, b, world));
    }

    static boolean isRefused(Counted x, int a, int b, int world) {
        try {
            x.done(a, b, world);
            return false;
        } catch (NoSuchElementException e) {
            return true;
        }
    }

    /** The first counts, in their order, as many as are told. */
    static void counts(String call, Counted x, int... want) {
        for (int what = 0; what < want.length; what++) {
            is(call + ": count(" + what + ")", x.count(what), want[what]);
        }
    }

    /** All nine doings of NOW, in the order 0 0, 0 1, 0 2, 1 0 and so on. */
    static void legals(String call, Counted x, int... want) {
        for (int i = 0; i < 9; i++) {
            is(call + ": legal(" + i / 3 + ", " + i % 3 + ")", x.legal(i / 3, i % 3), want[i]);
        }
    }

    static void end() {
        System.out.println(asked + " answers, " + wrong + " not as due");
        if (wrong != 0) {
            System.exit(1);
        }
    }
}
