/** Each sentence of promises 12 to 18: what is answered, also to what can't be, and what asking leaves alone. */
final class AnswerSentences {
    private static final int NONE = -1;
    private static final int NEVER = -1000000000;
    // Numbers that are no MODE, no MACHINE, no WORLD: right beside them and far away.
    private static final int[] NO_MODES = {-1, 3, 4, Integer.MIN_VALUE, Integer.MAX_VALUE};
    private static final int[] NO_MACHINES = {-1, 2, 3, Integer.MIN_VALUE, Integer.MAX_VALUE};

    private AnswerSentences() {
    }

    static void all() {
        legal();
        noLegal();
        worth();
        worthLikeNone();
        noWorth();
        mode();
        noMode();
        water();
        noWater();
        done();
        notDone();
        runs();
        runsFewer();
        noRuns();
        count();
        noCount();
    }

    private static void legal() {
        Sentence.of("Promise 12", "Whether a DOING of NOW is LEGAL: 1 or 0;");
        Counted x = new Counted();
        x.lakes(40, 40, 3, 4);
        Due.legals("3 units above, 4 below", x, 1, 1, 1, 1, 0, 1, 1, 1, 1);
        x.out(1, 1, 1, true);
        x.done(1, 0, 0);
        Due.legals("in HOUR 1", x, 1, 0, 0, 0, 0, 0, 0, 0, 0);
        Counted y = Days.at(23);
        Due.legals("in HOUR 23", y, 1, 1, 1, 1, 1, 1, 1, 1, 1);
        y.reserve(23, 99);
        Due.legals("none", y, 0, 0, 0, 0, 0, 0, 0, 0, 0);
        Counted z = new Counted();
        z.reserve(23, 99);
        Due.legals("LEGAL NOW, though no PLAN is", z, 1, 1, 1, 1, 1, 1, 1, 1, 1);
        Twins.keep("legal of all DOINGS", w -> {
            boolean told = true;
            for (int i = 0; i < 9; i++) {
                told &= w.legal(i / 3, i % 3) >= NONE;
            }
            return told;
        });
    }

    private static void noLegal() {
        Sentence.of("Promise 12", "NONE: no such MODES, NOW is 24.");
        for (int hour = 0; hour <= 24; hour += 8) {
            Counted x = Days.at(hour);
            for (int mode : NO_MODES) {
                Due.is("HOUR " + hour + ": legal(" + mode + ", 0)", x.legal(mode, 0), NONE);
                Due.is("HOUR " + hour + ": legal(0, " + mode + ")", x.legal(0, mode), NONE);
                Due.is("HOUR " + hour + ": legal(" + mode + ", " + mode + ")", x.legal(mode, mode), NONE);
            }
            Due.is("HOUR " + hour + ": legal(1, -3)", x.legal(1, -3), NONE);
            Due.is("HOUR " + hour + ": legal(-1, 3)", x.legal(-1, 3), NONE);
        }
        Due.legals("NOW is 24", Days.at(24), NONE, NONE, NONE, NONE, NONE, NONE, NONE, NONE, NONE);
        Twins.keep("legal of no MODES", x -> x.legal(3, 0) == NONE && x.legal(0, -1) == NONE);
    }

    private static void worth() {
        Sentence.of("Promise 13", "WORTH of the BEST PLAN (of NOW 24: what is left);");
        Counted x = new Counted();
        x.weights(2, 1, 0);
        x.end(4);
        Due.is("worth()", x.worth(), 3 * (595 + 2 * 4));
        Due.is("done(1, 0, 0)", x.done(1, 0, 0), 95);
        Due.is("of the HOURS that are left", x.worth(), 3 * (500 + 2 * 4));
        Due.is("runs(22, 0)", x.runs(22, 0), 22);
        Due.is("NOW is 23: UPPER", x.count(1), 2);
        Due.is("NOW is 23", x.worth(), 3 * 2 * 4);
        Days.standStill(x, 1);
        Due.is("NOW is 24", x.worth(), 3 * 2 * 4);
        x.end(0);
        Due.is("NOW is 24, END 0", x.worth(), 0);
        x.end(999);
        x.weights(9, 9, 9);
        Due.is("NOW is 24, END 999", x.worth(), 27 * 2 * 999);
        Counted full = new Counted();
        full.lakes(40, 40, 40, 40);
        Days.standStill(full, 24);
        full.end(999);
        full.weights(9, 9, 9);
        Due.is("NOW is 24, the UPPER is full", full.worth(), 27 * 40 * 999);
        Counted empty = new Counted();
        empty.lakes(40, 40, 0, 0);
        empty.end(999);
        Due.is("no water", empty.worth(), 0);
        Days.standStill(empty, 24);
        Due.is("NOW is 24, no water", empty.worth(), 0);
        Twins.keep("worth()", w -> w.worth() == w.worth());
    }

    /** An answer of -1 that is a number, not NONE: the one PLAN costs a start of 1, and nothing else. */
    private static void worthLikeNone() {
        Sentence.of("Promise 13", "WORTH of the BEST PLAN");
        for (int reveal = 0; reveal <= 24; reveal += 8) {
            Counted x = new Counted();
            x.lakes(40, 40, 40, 0);
            x.flows(0, 1, 0);
            x.machine(0, 1, 0, 0, 0, 1);
            x.out(1, 0, 0, true);
            Days.nothingFrom(x, 1);
            x.reveal(reveal);
            Due.is("REVEAL " + reveal + ": worth()", x.worth(), -1);
            Due.is("REVEAL " + reveal + ": water(39)", x.water(39), -1);
            x.weights(1, 1, 0);
            Due.is("REVEAL " + reveal + ", two WORLDS: worth()", x.worth(), -2);
            Due.is("REVEAL " + reveal + ", two WORLDS: water(39)", x.water(39), -2);
            Due.is("REVEAL " + reveal + ": mode(0, 0)", x.mode(0, 0), 1);
            Due.is("REVEAL " + reveal + ": done(1, 0, 0)", x.done(1, 0, 0), -1);
            Due.counts("REVEAL " + reveal, x, 1, 40, 1, 1, 0, -1, 1, 0, reveal);
        }
    }

    private static void noWorth() {
        Sentence.of("Promise 13", "NEVER: none is LEGAL.");
        Counted x = new Counted();
        Days.nothingFrom(x, 0);
        x.lakes(40, 40, 39, 1);
        x.flows(11, 1, 1);
        Due.is("just full and just dry: worth()", x.worth(), 0);
        x.flows(23, 1, 0);
        Due.is("over in HOUR 23", x.worth(), NEVER);
        x.flows(23, 0, 1);
        Due.is("dry in HOUR 23", x.worth(), NEVER);
        x.flows(23, 0, 0);
        x.speeds(1, 1);
        Due.is("no change is faster", x.worth(), 0);
        x.reserve(17, 1);
        Due.is("no MACHINE for the promise", x.worth(), NEVER);
        x.out(0, 17, 17, false);
        Due.is("there is one", x.worth(), 0);
        // to become less full in time is the only PLAN
        Counted y = new Counted();
        y.lakes(40, 40, 40, 0);
        y.out(1, 0, 23, true);
        y.out(0, 1, 23, true);
        y.flows(5, 3, 0);
        Due.is("3 down NOW, or it flows over in HOUR 5", y.worth(), 95);
        Due.is("mode(0, 0)", y.mode(0, 0), 1);
        y.flows(5, 4, 0);
        Due.is("4 are too many", y.worth(), NEVER);
        // turning: UP NOW keeps the promise, and DOWN in HOUR 1 can't follow
        Counted z = new Counted();
        z.machine(0, 3, 0, 2, 99, 5);
        z.out(1, 0, 23, true);
        z.lakes(40, 40, 38, 0);
        z.flows(1, 3, 0);
        Due.is("DOWN in HOUR 1", z.worth(), -5);
        z.lakes(40, 40, 38, 2);
        z.reserve(0, 99);
        Due.is("UP NOW, and DOWN in HOUR 1", z.worth(), NEVER);
        z.flows(1, 0, 0);
        z.flows(2, 3, 0);
        Due.is("UP NOW, and DOWN in HOUR 2", z.worth(), -10 * 99 - 5 - 5);
        Twins.keep("no WORTH for a while", w -> w.reserve(23, 99) && w.worth() <= 999 * 40 * 27 && w.reserve(23, back(w)));
    }

    /** The RESERVE that HOUR 23 has in that past: 0 on a new object, 3 on an odd day. */
    private static int back(Counted x) {
        return x.count(8) == 0 ? 0 : 3;
    }

    private static void mode() {
        Sentence.of("Promise 14", "The MODE of a MACHINE in the DOING of NOW of the BEST PLAN, in a WORLD;");
        for (int hour = 0; hour < 24; hour += 23) {
            Counted x = Days.at(hour);
            x.weights(1, 1, 0);
            x.machine(1, 3, 9, 2, 9, 99);
            Days.nothingFrom(x, 0);
            x.out(0, hour, hour, false);
            x.out(1, hour, hour, false);
            x.price(0, hour, 11);
            x.price(1, hour, -11);
            x.price(2, hour, 12);
            int[][] want = {{1, 0}, {2, 0}, {1, 1}};
            for (int i = 0; i < 6; i++) {
                Due.is("HOUR " + hour + ": mode(" + i / 2 + ", " + i % 2 + ")", x.mode(i / 2, i % 2), want[i / 2][i % 2]);
            }
            x.reveal(hour + 1);
            for (int i = 0; i < 6; i++) {
                Due.is("HOUR " + hour + ", hidden: mode(" + i / 2 + ", " + i % 2 + ")", x.mode(i / 2, i % 2), 0);
            }
        }
        Twins.keep("mode of all", w -> {
            boolean told = true;
            for (int i = 0; i < 6; i++) {
                told &= w.mode(i / 2, i % 2) >= NONE;
            }
            return told;
        });
    }

    private static void noMode() {
        Sentence.of("Promise 14", "NONE: none such, no PLAN, NOW is 24.");
        for (int hour = 0; hour <= 24; hour += 8) {
            for (int reveal = 0; reveal <= 24; reveal += 24) {
                Counted x = Days.at(hour);
                x.reveal(reveal);
                String when = "HOUR " + hour + ", REVEAL " + reveal;
                for (int world : NO_MODES) {
                    Due.is(when + ": mode(" + world + ", 0)", x.mode(world, 0), NONE);
                    Due.is(when + ": mode(" + world + ", 1)", x.mode(world, 1), NONE);
                }
                for (int k : NO_MACHINES) {
                    Due.is(when + ": mode(0, " + k + ")", x.mode(0, k), NONE);
                    Due.is(when + ": mode(2, " + k + ")", x.mode(2, k), NONE);
                }
                for (int i = 0; i < 6; i++) {
                    Due.is(when + ": mode(" + i / 2 + ", " + i % 2 + ")", x.mode(i / 2, i % 2), hour == 24 ? NONE : 0);
                }
                x.reserve(23, 99);
                for (int i = 0; i < 6; i++) {
                    Due.is(when + ", no PLAN: mode(" + i / 2 + ", " + i % 2 + ")", x.mode(i / 2, i % 2), NONE);
                }
            }
        }
        Twins.keep("mode of none", x -> x.mode(3, 0) == NONE && x.mode(0, 2) == NONE && x.mode(-1, -1) == NONE);
    }

    private static void water() {
        Sentence.of("Promise 15", "WATER's price at a level;");
        Counted x = new Counted();
        int[] due = new int[40];
        // 3 units are sold for 100, the first ones with a start; the LOWER has room for 20
        for (int level = 2; level < 20; level += 3) {
            due[level] = level == 2 ? 95 : 100;
        }
        for (int level = 0; level < 40; level++) {
            Due.is("water(" + level + ")", x.water(level), due[level]);
        }
        Counted y = Days.at(24);
        y.end(999);
        y.weights(9, 9, 9);
        for (int level = 0; level < 40; level += 39) {
            Due.is("NOW is 24: water(" + level + ")", y.water(level), 27 * 999);
        }
        // more water may be worth less than nothing: it has to be let down at a loss
        Counted z = new Counted();
        Days.nothingFrom(z, 1);
        z.price(0, 0, -9);
        z.flows(1, 1, 0);
        z.lakes(40, 40, 0, 0);
        Due.is("water(38)", z.water(38), 0);
        Due.is("3 down and 2 up, two starts: water(39)", z.water(39), -10);
        z.out(1, 0, 0, true);
        Due.is("3 down at -9 and a start: water(39)", z.water(39), -95);
        Twins.keep("water of some", w -> {
            boolean told = true;
            for (int level = 0; level < 3; level++) {
                told &= w.water(level) >= NEVER;
            }
            return told;
        });
    }

    private static void noWater() {
        Sentence.of("Promise 15", "NEVER: no such levels (x from 0 to A - 1), no PLAN with one of both.");
        int[] far = {-1, -2, 41, Integer.MIN_VALUE, Integer.MAX_VALUE, Integer.MAX_VALUE - 1};
        for (int a : new int[] {1, 2, 17, 39, 40}) {
            for (int now = 0; now <= 24; now += 12) {
                Counted x = new Counted();
                x.lakes(a, 40, 0, 20);
                x.end(3);
                Days.nothingFrom(x, 0);
                Days.standStill(x, now);
                String when = "A is " + a + ", NOW is " + now;
                Due.is(when + ": water(0)", x.water(0), 3);
                Due.is(when + ": water(A - 1)", x.water(a - 1), 3);
                Due.is(when + ": water(A)", x.water(a), NEVER);
                for (int level : far) {
                    Due.is(when + ": water(" + level + ")", x.water(level), NEVER);
                }
            }
        }
        // STILL for ever, and 2 units to come: a PLAN with 38 units, none with 39
        Counted x = new Counted();
        Days.nothingFrom(x, 0);
        x.flows(23, 2, 0);
        Due.is("a PLAN with 37 and 38", x.water(37), 0);
        Due.is("a PLAN with 38, none with 39", x.water(38), NEVER);
        Due.is("none with 39 and 40", x.water(39), NEVER);
        // 3 units at least are promised for HOUR 0
        Counted y = new Counted();
        y.out(1, 0, 23, true);
        y.lakes(40, 40, 20, 0);
        y.reserve(0, 1);
        Due.is("none with 1 and 2", y.water(1), NEVER);
        Due.is("none with 2, a PLAN with 3", y.water(2), NEVER);
        Due.is("a PLAN with 3 and 4", y.water(3), 0);
        y.reserve(23, 99);
        Due.is("no PLAN at all", y.water(3), NEVER);
        // no PLAN with what is there, but with other levels
        Counted z = new Counted();
        Days.nothingFrom(z, 0);
        z.lakes(40, 40, 40, 20);
        z.flows(0, 1, 0);
        z.end(5);
        Due.is("no PLAN with 40", z.worth(), NEVER);
        Due.is("a PLAN with 38 and 39", z.water(38), 5);
        Twins.keep("water of no levels", w -> w.water(-1) == NEVER && w.water(40) == NEVER);
    }

    private static void done() {
        Sentence.of("Promise 16", "DONE: the MONEY.");
        Counted x = new Counted();
        x.price(0, 0, 999);
        x.price(1, 1, -99);
        Due.is("done(1, 1, 0)", x.done(1, 1, 0), 20 * 999 - 10);
        Due.is("done(1, 0, 1)", x.done(1, 0, 1), -990);
        Due.is("done(0, 0, 2)", x.done(0, 0, 2), 0);
        Due.counts("behind", x, 3, 11, 29, 0, 0, 20 * 999 - 10 - 990, 1, 1, 0);
        Counted y = Days.at(23);
        Due.is("HOUR 23", y.done(2, 2, 2), -210);
        Due.counts("NOW is 24", y, 24, 24, 16, 2, 2, -210, 1, 1, 0);
        Counted z = new Counted();
        z.reserve(23, 99);
        Due.is("LEGAL, though no PLAN is", z.done(1, 0, 0), 95);
    }

    private static void notDone() {
        Sentence.of("Promise 16", "NoSuchElementException: no such MODES, WORLD, it is not LEGAL, NOW is 24.");
        for (int mode : NO_MODES) {
            Twins.keep("done(" + mode + ", 0, 0) throws", x -> Due.isRefused(x, mode, 0, 0));
            Twins.keep("done(0, " + mode + ", 0) throws", x -> Due.isRefused(x, 0, mode, 0));
            Twins.keep("done(0, 0, " + mode + ") throws", x -> Due.isRefused(x, 0, 0, mode));
        }
        Twins.keep("done(1, -3, 0) throws", x -> Due.isRefused(x, 1, -3, 0));
        Twins.keep("done(-1, 3, 0) throws", x -> Due.isRefused(x, -1, 3, 0));
        for (int mode = 0; mode <= 2; mode++) {
            Due.no("the last MODES: done(" + mode + ", 0, 2)", Due.isRefused(new Counted(), mode, 0, 2));
            Due.no("the last MODES: done(0, " + mode + ", 0)", Due.isRefused(new Counted(), 0, mode, 0));
        }
        Twins.keep("what is not LEGAL throws", x -> {
            boolean thrown = true;
            for (int i = 0; i < 9; i++) {
                if (x.legal(i / 3, i % 3) != 1) {
                    thrown &= Due.isRefused(x, i / 3, i % 3, i % 3);
                }
            }
            return thrown;
        });
        Counted x = Days.at(24);
        for (int i = 0; i < 27; i++) {
            Due.refused(x, i / 9, i / 3 % 3, i % 3);
        }
        Due.counts("NOW is 24", x, 24, 20, 20, 0, 0, 0, 0, 0, 0);
        notLegal();
    }

    /** One cause of each kind: nothing is done, and without that cause it is. */
    private static void notLegal() {
        Counted out = new Counted();
        out.out(0, 0, 0, true);
        Due.refused(out, 1, 0, 0);
        out.out(0, 0, 0, false);
        Due.is("not OUT any more", out.done(1, 0, 0), 95);
        Due.refused(out, 2, 0, 0);
        Due.is("no turn", out.done(1, 0, 0), 100);
        Counted dry = new Counted();
        dry.lakes(40, 40, 2, 20);
        Due.refused(dry, 1, 0, 0);
        Due.counts("nothing is done", dry, 0, 2, 20, 0, 0, 0, 0, 0);
        dry.flows(0, 1, 0);
        Due.is("1 more flows in", dry.done(1, 0, 0), 95);
        Due.counts("empty", dry, 1, 0, 23, 1, 0, 95, 1, 0);
        Counted fast = new Counted();
        fast.speeds(2, 40);
        Due.refused(fast, 1, 0, 0);
        fast.speeds(3, 40);
        Due.is("fast enough", fast.done(1, 0, 0), 95);
        Counted promised = new Counted();
        promised.reserve(0, 11);
        Due.refused(promised, 1, 0, 0);
        promised.reserve(0, 10);
        Due.is("10 of 10", promised.done(1, 0, 0), 95);
    }

    private static void runs() {
        Sentence.of("Promise 17", "The BEST PLAN is done, so many HOURS (0 to 24), in a WORLD: how many HOURS were done");
        Twins.keep("runs(0, 0)", x -> x.runs(0, 0) == 0);
        Twins.keep("runs(0, 2)", x -> x.runs(0, 2) == 0);
        for (int hours = 0; hours <= 24; hours++) {
            Counted x = new Counted();
            Due.is("runs(" + hours + ", 0)", x.runs(hours, 0), hours);
            Due.is("NOW", x.count(0), hours);
            Due.is("what was had and what is to come", x.count(5) + x.worth(), 595);
        }
        for (int world = 0; world < 3; world++) {
            Counted x = Days.odd();
            Counted y = Days.odd();
            Due.is("runs(24, " + world + ")", x.runs(24, world), 24);
            for (int hour = 0; hour < 24; hour++) {
                y.done(y.mode(world, 0), y.mode(world, 1), world);
            }
            for (int what = 0; what < 9; what++) {
                Due.is("HOUR by HOUR the same: count(" + what + ")", x.count(what), y.count(what));
            }
        }
        Counted x = Days.odd();
        x.weights(0, 4, 0);
        x.reveal(0);
        int worth = x.worth();
        Due.is("runs(24, 1)", x.runs(24, 1), 24);
        Due.is("WORTH of the one WORLD of weight 4", 4 * x.count(5) + x.worth(), worth);
    }

    private static void runsFewer() {
        Sentence.of("Promise 17", "(fewer if no PLAN is LEGAL, or the day ends);");
        for (int now = 0; now <= 24; now++) {
            Counted x = Days.at(now);
            Due.is("NOW is " + now + ": runs(24, 0)", x.runs(24, 0), 24 - now);
            Due.is("NOW", x.count(0), 24);
            Due.is("NOW is 24: runs(1, 0)", x.runs(1, 0), 0);
            if (now > 0) {
                Counted y = Days.at(now);
                Due.is("runs(" + (24 - now) + ", 1)", y.runs(24 - now, 1), 24 - now);
                Counted z = Days.at(now);
                Due.is("runs(" + (25 - now) + ", 1)", z.runs(25 - now, 1), 24 - now);
            }
        }
        for (int world = 0; world < 3; world++) {
            for (int reveal = 0; reveal <= 24; reveal += 12) {
                Counted x = new Counted();
                x.reveal(reveal);
                x.reserve(23, 99);
                Due.is("no PLAN: runs(24, " + world + ")", x.runs(24, world), 0);
                Due.counts("nothing is done", x, 0, 20, 20, 0, 0, 0, 0, 0, reveal);
                x.reserve(23, 20);
                Due.is("a PLAN: runs(24, " + world + ")", x.runs(24, world), 24);
            }
        }
    }

    private static void noRuns() {
        Sentence.of("Promise 17", "NONE: no such WORLD, HOURS.");
        for (int hours : new int[] {-1, 25, Integer.MIN_VALUE, Integer.MAX_VALUE}) {
            Twins.keep("runs(" + hours + ", 0)", x -> x.runs(hours, 0) == NONE);
            Twins.keep("runs(" + hours + ", 3)", x -> x.runs(hours, 3) == NONE);
        }
        for (int world : NO_MODES) {
            Twins.keep("runs(1, " + world + ")", x -> x.runs(1, world) == NONE);
            Twins.keep("runs(0, " + world + ")", x -> x.runs(0, world) == NONE);
        }
        Counted x = new Counted();
        x.reserve(23, 99);
        Due.is("no PLAN: runs(25, 0)", x.runs(25, 0), NONE);
        Due.is("no PLAN: runs(1, 3)", x.runs(1, 3), NONE);
    }

    private static void count() {
        Sentence.of("Promise 18", "What 0: NOW, 1: UPPER, 2: LOWER, 3, 4: MODES of the MACHINES, 5: purse, "
            + "6, 7: starts of the MACHINES so far, 8: REVEAL.");
        Counted x = new Counted();
        Due.counts("at first", x, 0, 20, 20, 0, 0, 0, 0, 0, 0);
        x.lakes(40, 39, 12, 13);
        x.reveal(24);
        Due.counts("set", x, 0, 12, 13, 0, 0, 0, 0, 0, 24);
        x.done(1, 2, 0);
        Due.counts("DOWN, UP", x, 1, 11, 14, 1, 2, -10, 1, 1, 24);
        x.done(1, 0, 0);
        Due.counts("DOWN, STILL", x, 2, 8, 17, 1, 0, 90, 1, 1, 24);
        x.done(0, 2, 0);
        Due.counts("STILL, UP", x, 3, 10, 15, 0, 2, -15, 1, 2, 24);
        x.done(2, 2, 0);
        Due.counts("UP, UP", x, 4, 14, 11, 2, 2, -220, 2, 2, 24);
        x.reveal(0);
        for (int hour = 4; hour < 24; hour++) {
            x.done(0, hour < 12 ? hour % 2 : 0, 0);
        }
        Due.counts("four starts more of 1, behind the last HOUR", x, 24, 2, 23, 0, 0, -220 + 4 * 95, 2, 6, 0);
    }

    private static void noCount() {
        Sentence.of("Promise 18", "NONE for another what.");
        for (int hour = 0; hour <= 24; hour += 24) {
            Counted x = Days.at(hour);
            for (int what : new int[] {-1, 9, 10, Integer.MIN_VALUE, Integer.MAX_VALUE, 256, 65536}) {
                Due.is("HOUR " + hour + ": count(" + what + ")", x.count(what), NONE);
            }
        }
        Twins.keep("count of all and of others", x -> {
            for (int what = 0; what < 9; what++) {
                x.count(what);
            }
            return x.count(9) == NONE && x.count(-1) == NONE;
        });
    }
}
