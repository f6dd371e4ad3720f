import java.util.ArrayList;
import java.util.Arrays;
import java.util.List;
import java.util.function.Supplier;

/**
 * Two objects with the same past, of which one gets a call more: if that call changes nothing, all
 * that later calls show, to the end of the day, is the same of both.
 */
final class Twins {
    /** A call of a setter: whether it was taken. */
    interface Setter {
        boolean on(Counted x);
    }

    /** A call of a setter with one number that is looked at, all others being right. */
    interface Number {
        boolean on(Counted x, int n);
    }

    private static final String[] NAMES = {"a new object", "an odd day", "HOUR 7 of it", "the end of it"};
    private static final List<Supplier<Counted>> PASTS =
        List.of(Counted::new, Days::odd, Days::midday, Days::over);
    // What calls show of each past if it gets no call more.
    private static final List<int[]> SHOWN = new ArrayList<>();

    private Twins() {
    }

    /** The call answers false in every HOUR, and changes nothing. */
    static void refuse(String call, Setter setter) {
        for (int i = 0; i < NAMES.length; i++) {
            Counted x = PASTS.get(i).get();
            Due.no(call + " on " + NAMES[i], setter.on(x));
            unchanged(call, i, x);
        }
    }

    /** An asking, or a call that is refused otherwise than by false, changes nothing. */
    static void keep(String call, Setter asking) {
        for (int i = 0; i < NAMES.length; i++) {
            Counted x = PASTS.get(i).get();
            Due.yes(call + " on " + NAMES[i], asking.on(x));
            unchanged(call, i, x);
        }
    }

    private static void unchanged(String call, int past, Counted x) {
        for (int i = SHOWN.size(); i <= past; i++) {
            SHOWN.add(show(PASTS.get(i).get()));
        }
        same(call + " on " + NAMES[past] + " changes something", show(x), SHOWN.get(past));
    }

    /** Tells the first difference alone: one change shows in hundreds of answers. */
    static void same(String what, int[] got, int[] want) {
        Due.is(what + ": how many answers", got.length, want.length);
        int at = Arrays.mismatch(got, want);
        Due.is(what + ": the first answer that differs", at, -1);
    }

    /** The last numbers that are taken and the first ones that are refused, on both sides. */
    static void edges(String name, int least, int most, Number call) {
        for (int i = 0; i < 2; i++) {
            Due.yes(name + " " + least + " on " + NAMES[i], call.on(PASTS.get(i).get(), least));
            Due.yes(name + " " + most + " on " + NAMES[i], call.on(PASTS.get(i).get(), most));
        }
        int[] others = {least - 1, most + 1, Integer.MIN_VALUE, Integer.MAX_VALUE};
        for (int n : others) {
            refuse(name + " " + n, x -> call.on(x, n));
        }
    }

    /** All that calls show of NOW and, HOUR by HOUR, of the rest of the day: some 400 calls. */
    static int[] show(Counted x) {
        List<Integer> shown = new ArrayList<>();
        for (int what = 3; what < 9; what++) {
            shown.add(x.count(what));
        }
        for (int i = 0; i < 6; i++) {
            shown.add(x.mode(i / 2, i % 2));
        }
        for (int level = 0; level <= 40; level += 4) {
            shown.add(x.water(level));
        }
        int now = x.count(0);
        boolean goesOn = true;
        while (goesOn) {
            for (int i = 0; i < 9; i++) {
                shown.add(x.legal(i / 3, i % 3));
            }
            shown.add(x.worth());
            shown.add(x.count(1));
            shown.add(x.count(2));
            shown.add(x.count(5));
            goesOn = now < 24 && x.runs(1, now % 3) == 1;
            now++;
        }
        return shown.stream().mapToInt(Integer::intValue).toArray();
    }
}
