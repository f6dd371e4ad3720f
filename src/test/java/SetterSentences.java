/** Each sentence of promises 1 to 11: what is taken and what it does, what is refused and that it does nothing. */
final class SetterSentences {
    private static final int NEVER = -1000000000;
    private static final int LEAST = Integer.MIN_VALUE;
    private static final int MOST = Integer.MAX_VALUE;

    private SetterSentences() {
    }

    static void all() {
        newObject();
        lakesTaken();
        lakesRefused();
        speeds();
        flows();
        machineTaken();
        machineRefused();
        outTaken();
        outRefused();
        reserve();
        weights();
        price();
        reveal();
        end();
    }

    private static void newObject() {
        Sentence.of("Promise 1", "All as told at first.");
        Counted x = new Counted();
        Due.counts("NOW, levels, MODES, purse, starts, REVEAL", x, 0, 20, 20, 0, 0, 0, 0, 0, 0);
        Due.legals("no MACHINE is OUT, nothing is promised", x, 1, 1, 1, 1, 1, 1, 1, 1, 1);
        Due.is("worth()", x.worth(), 595);
        Due.is("water(19)", x.water(19), 0);
        Counted y = new Counted();
        // all that is told at first, said once more, changes nothing
        boolean taken = y.lakes(40, 40, 20, 20) && y.speeds(40, 40) && y.weights(1, 0, 0) && y.reveal(0) && y.end(0);
        taken &= y.machine(0, 3, 10, 2, 10, 5) && y.machine(1, 3, 10, 2, 10, 5);
        taken &= y.out(0, 0, 23, false) && y.out(1, 0, 23, false);
        for (int hour = 0; hour < 24; hour++) {
            taken &= y.flows(hour, 0, 0) && y.reserve(hour, 0);
        }
        Due.yes("told once more", taken);
        Twins.same("at first", Twins.show(new Counted()), Twins.show(y));
        Counted z = new Counted();
        for (int hour = 0; hour < 72; hour++) {
            z.price(hour / 24, hour % 24, 10);
        }
        Twins.same("prices at first", Twins.show(new Counted()), Twins.show(z));
        new Counted().runs(24, 0);
        Due.counts("no object tells another", new Counted(), 0, 20, 20, 0, 0, 0, 0, 0, 0);
    }

    private static void lakesTaken() {
        Sentence.of("Promise 2", "What the lakes hold, and their levels (only as long as NOW is 0): true;");
        int[][] rows = {{1, 1, 0, 0}, {1, 1, 1, 1}, {40, 40, 40, 40}, {40, 40, 0, 0}, {1, 40, 0, 40}, {40, 1, 40, 0},
            {7, 9, 7, 9}};
        Counted x = new Counted();
        x.machine(0, 1, 1, 1, 1, 1);
        for (int[] row : rows) {
            Due.yes("lakes(" + row[0] + ", " + row[1] + ", " + row[2] + ", " + row[3] + ")",
                x.lakes(row[0], row[1], row[2], row[3]));
            Due.counts("levels", x, 0, row[2], row[3]);
            Due.is("1 down", x.legal(1, 0), row[2] > 0 && row[3] < row[1] ? 1 : 0);
            Due.is("1 up", x.legal(2, 0), row[3] > 0 && row[2] < row[0] ? 1 : 0);
        }
        Due.is("worth(), runs(0, 0) and what is refused leave NOW 0", x.runs(0, 0), 0);
        Due.refused(x, 3, 3, 3);
        Due.yes("so it is taken", x.lakes(20, 21, 10, 11));
        Due.counts("levels", x, 0, 10, 11);
    }

    private static void lakesRefused() {
        Sentence.of("Promise 2", "false: other numbers, levels above, NOW is not 0.");
        int[][] taken = {{1, 33, 0, 5}, {40, 33, 19, 5}, {31, 1, 12, 0}, {31, 40, 12, 3}, {31, 33, 0, 5},
            {31, 33, 31, 5}, {31, 33, 12, 0}, {31, 33, 12, 33}};
        for (int[] row : taken) {
            Due.yes("on a new object: lakes(" + row[0] + ", " + row[1] + ", " + row[2] + ", " + row[3] + ")",
                new Counted().lakes(row[0], row[1], row[2], row[3]));
        }
        int[][] rows = {{0, 33, 0, 5}, {41, 33, 0, 5}, {31, 0, 12, 0}, {31, 41, 12, 3}, {LEAST, 33, 12, 5},
            {MOST, 33, 12, 5}, {31, LEAST, 12, 5}, {31, MOST, 12, 5},
            {31, 33, -1, 5}, {31, 33, 32, 5}, {31, 33, 12, -1}, {31, 33, 12, 34}, {31, 33, LEAST, 5},
            {31, 33, MOST, 5}, {31, 33, 12, LEAST}, {31, 33, 12, MOST},
            {1, 33, 2, 5}, {31, 1, 12, 2}, {40, 40, 41, 5}, {40, 40, 5, 41}, {10, 33, 20, 5}, {31, 10, 12, 20}};
        for (int[] row : rows) {
            Twins.refuse("lakes(" + row[0] + ", " + row[1] + ", " + row[2] + ", " + row[3] + ")",
                x -> x.lakes(row[0], row[1], row[2], row[3]));
        }
        for (int now = 1; now <= 24; now++) {
            Counted x = Days.at(now);
            Due.no("NOW is " + now, x.lakes(30, 31, 12, 13));
            Due.counts("NOW is " + now, x, now, 20, 20);
            Due.no("NOW is " + now + ", even as it is", x.lakes(40, 40, 20, 20));
        }
        Counted x = Days.at(1);
        Due.no("lakes(19, 19, 19, 19)", x.lakes(19, 19, 19, 19));
        Due.legals("they hold what they held", x, 1, 1, 1, 1, 1, 1, 1, 1, 1);
        Due.is("they hold what they held", x.water(39), 0);
    }

    private static void speeds() {
        Sentence.of("Promise 3", "Speeds: true;");
        Counted x = new Counted();
        Due.yes("speeds(1, 40)", x.speeds(1, 40));
        Due.legals("1 of the UPPER", x, 1, 0, 0, 0, 0, 1, 0, 1, 0);
        Due.yes("speeds(40, 1)", x.speeds(40, 1));
        Due.legals("1 of the LOWER", x, 1, 0, 0, 0, 0, 1, 0, 1, 0);
        Due.yes("speeds(3, 4)", x.speeds(3, 4));
        Due.legals("3 and 4", x, 1, 1, 1, 1, 0, 1, 1, 1, 0);
        Due.yes("speeds(4, 4)", x.speeds(4, 4));
        Due.legals("4 and 4", x, 1, 1, 1, 1, 0, 1, 1, 1, 1);
        Due.yes("speeds(40, 40)", x.speeds(40, 40));
        Due.legals("40 and 40", x, 1, 1, 1, 1, 1, 1, 1, 1, 1);
        Due.is("3 down are fast enough: worth()", x.worth(), 595);
        Due.yes("speeds(2, 40)", x.speeds(2, 40));
        Due.is("3 down are too fast for the UPPER: worth()", x.worth(), 0);
        Due.yes("speeds(3, 3)", x.speeds(3, 3));
        Due.is("3 down are fast enough: worth()", x.worth(), 595);
        Due.yes("speeds(40, 2)", x.speeds(40, 2));
        Due.is("3 down are too fast for the LOWER: worth()", x.worth(), 0);
        Counted y = Days.at(23);
        Due.yes("also in HOUR 23", y.speeds(2, 40));
        Due.legals("HOUR 23", y, 1, 0, 1, 0, 0, 1, 1, 1, 0);
        Due.yes("also behind the last", Days.at(24).speeds(2, 40));
        Sentence.of("Promise 3", "false: other numbers.");
        Twins.edges("speed of the UPPER", 1, 40, (z, n) -> z.speeds(n, 2));
        Twins.edges("speed of the LOWER", 1, 40, (z, n) -> z.speeds(2, n));
    }

    private static void flows() {
        Sentence.of("Promise 4", "INFLOW and OUTFLOW of an HOUR: true;");
        Counted x = new Counted();
        for (int hour = 0; hour < 24; hour++) {
            Due.yes("flows of HOUR " + hour, x.flows(hour, hour % 2, 1 - hour % 2));
        }
        for (int hour = 0; hour < 24; hour++) {
            Days.standStill(x, 1);
            Due.counts("HOUR " + hour, x, hour + 1, 20 + (hour + 1) / 2, 20 - (hour + 2) / 2);
        }
        Counted y = Days.at(3);
        Due.yes("the last one counts", y.flows(3, 9, 9) && y.flows(3, 1, 0));
        Due.yes("an HOUR that is past", y.flows(2, 7, 7));
        y.done(0, 0, 0);
        Due.counts("1 came in", y, 4, 21, 20);
        Sentence.of("Promise 4", "false: no such HOUR, other numbers.");
        Twins.edges("HOUR", 0, 23, (z, n) -> z.flows(n, 2, 3));
        Twins.edges("INFLOW", 0, 9, (z, n) -> z.flows(12, n, 5));
        Twins.edges("OUTFLOW", 0, 9, (z, n) -> z.flows(12, 5, n));
    }

    private static void machineTaken() {
        Sentence.of("Promise 5", "A MACHINE's units and energy DOWN, units and energy UP, start: true;");
        for (int k = 0; k < 2; k++) {
            Counted x = new Counted();
            Due.yes("machine(" + k + ", 4, 50, 6, 70, 8)", x.machine(k, 4, 50, 6, 70, 8));
            Due.is("DOWN", k == 0 ? x.done(1, 0, 0) : x.done(0, 1, 0), 500 - 8);
            Due.counts("4 units", x, 1, 16, 24);
            Days.standStill(x, 1);
            Due.is("UP", k == 0 ? x.done(2, 0, 0) : x.done(0, 2, 0), -700 - 8);
            Due.counts("6 units", x, 3, 22, 18);
            Due.is("the other one as at first", k == 0 ? x.done(0, 1, 0) : x.done(1, 0, 0), 95);
            Due.counts("3 units", x, 4, 19, 21);
            Due.yes("all 0", x.machine(k, 0, 0, 0, 0, 0));
            Due.is("DOWN for nothing", k == 0 ? x.done(1, 0, 0) : x.done(0, 1, 0), 0);
            Due.counts("no units", x, 5, 19, 21);
            Due.yes("all 99", x.machine(k, 99, 99, 99, 99, 99));
            Due.is("99 units", k == 0 ? x.legal(1, 0) : x.legal(0, 1), 0);
            Due.is("STILL", x.legal(0, 0), 1);
        }
    }

    private static void machineRefused() {
        Sentence.of("Promise 5", "false: no such MACHINE, other numbers.");
        Twins.edges("MACHINE", 0, 1, (x, n) -> x.machine(n, 1, 41, 3, 6, 2));
        for (int k = 0; k < 2; k++) {
            int of = k;
            Twins.edges("units DOWN of " + k, 0, 99, (x, n) -> x.machine(of, n, 41, 3, 6, 2));
            Twins.edges("energy DOWN of " + k, 0, 99, (x, n) -> x.machine(of, 1, n, 3, 6, 2));
            Twins.edges("units UP of " + k, 0, 99, (x, n) -> x.machine(of, 1, 41, n, 6, 2));
            Twins.edges("energy UP of " + k, 0, 99, (x, n) -> x.machine(of, 1, 41, 3, n, 2));
            Twins.edges("start of " + k, 0, 99, (x, n) -> x.machine(of, 1, 41, 3, 6, n));
        }
    }

    private static void outTaken() {
        Sentence.of("Promise 6", "A MACHINE is OUT (yes) or not in HOURS from .. to: true;");
        int[][] spans = {{0, 0}, {0, 23}, {23, 23}, {5, 5}, {5, 6}, {1, 22}};
        for (int[] span : spans) {
            for (int k = 0; k < 2; k++) {
                Counted x = new Counted();
                Counted y = new Counted();
                Due.yes("out(" + k + ", " + span[0] + ", " + span[1] + ", true)", x.out(k, span[0], span[1], true));
                Due.yes("all are OUT", y.out(k, 0, 23, true));
                Due.yes("out(" + k + ", " + span[0] + ", " + span[1] + ", false)", y.out(k, span[0], span[1], false));
                for (int hour = 0; hour < 24; hour++) {
                    int within = hour >= span[0] && hour <= span[1] ? 1 : 0;
                    String when = k + " from " + span[0] + " to " + span[1] + ", HOUR " + hour;
                    Due.is(when + ", OUT", k == 0 ? x.legal(1, 0) : x.legal(0, 1), 1 - within);
                    Due.is(when + ", not OUT", k == 0 ? y.legal(1, 0) : y.legal(0, 1), within);
                    Due.is(when + ", the other one", k == 0 ? x.legal(0, 1) : x.legal(1, 0), 1);
                    x.done(0, 0, 0);
                    y.done(0, 0, 0);
                }
            }
        }
    }

    private static void outRefused() {
        Sentence.of("Promise 6", "false: none such, from above to.");
        Twins.edges("MACHINE", 0, 1, (x, n) -> x.out(n, 2, 12, true));
        for (int k = 0; k < 2; k++) {
            int of = k;
            Twins.edges("from of " + k, 0, 23, (x, n) -> x.out(of, n, 23, true));
            Twins.edges("to of " + k, 0, 23, (x, n) -> x.out(of, 0, n, true));
            Twins.edges("from below 7 of " + k, 0, 7, (x, n) -> x.out(of, n, 7, true));
            Twins.edges("to behind 7 of " + k, 7, 23, (x, n) -> x.out(of, 7, n, true));
            Twins.refuse("out(" + k + ", 23, 0, true), no day goes round", x -> x.out(of, 23, 0, true));
            Twins.refuse("out(" + k + ", 21, 20, true)", x -> x.out(of, 21, 20, true));
            // the odd day has HOURS in which they are OUT: a refused call does not call them back
            Twins.refuse("out(" + k + ", 9, 24, false)", x -> x.out(of, 9, 24, false));
            Twins.refuse("out(" + k + ", -1, 20, false)", x -> x.out(of, -1, 20, false));
            Twins.refuse("out(" + k + ", 20, 9, false)", x -> x.out(of, 20, 9, false));
            Twins.refuse("out(" + k + ", -2, -1, true)", x -> x.out(of, -2, -1, true));
            Twins.refuse("out(" + k + ", 24, 25, true)", x -> x.out(of, 24, 25, true));
        }
    }

    private static void reserve() {
        Sentence.of("Promise 7", "RESERVE of an HOUR: true;");
        for (int hour = 0; hour < 24; hour++) {
            Counted x = Days.at(hour);
            x.machine(0, 1, 99, 1, 1, 1);
            Due.yes("reserve(" + hour + ", 99)", x.reserve(hour, 99));
            Due.legals("99 in HOUR " + hour, x, 1, 1, 1, 0, 0, 0, 0, 0, 0);
            Due.yes("reserve(" + hour + ", 11)", x.reserve(hour, 11));
            Due.legals("11 in HOUR " + hour, x, 1, 1, 1, 0, 0, 0, 1, 0, 1);
            Due.yes("reserve(" + hour + ", 0)", x.reserve(hour, 0));
            Due.legals("0 in HOUR " + hour, x, 1, 1, 1, 1, 1, 1, 1, 1, 1);
        }
        Sentence.of("Promise 7", "false: no such HOUR, other number.");
        Twins.edges("HOUR", 0, 23, (x, n) -> x.reserve(n, 6));
        Twins.edges("RESERVE of HOUR 0", 0, 99, (x, n) -> x.reserve(0, n));
        Twins.edges("RESERVE of HOUR 23", 0, 99, (x, n) -> x.reserve(23, n));
    }

    private static void weights() {
        Sentence.of("Promise 8", "Weights of the WORLDS: true;");
        Counted x = new Counted();
        Days.prices(x, 1, 20);
        Days.prices(x, 2, 30);
        int[] alone = {595, 1195, 1795};
        int[][] rows = {{0, 0, 1}, {0, 1, 0}, {1, 0, 0}, {9, 9, 9}, {9, 0, 0}, {0, 9, 0}, {0, 0, 9}, {1, 2, 3}, {0, 1, 9}};
        for (int[] w : rows) {
            Due.yes("weights(" + w[0] + ", " + w[1] + ", " + w[2] + ")", x.weights(w[0], w[1], w[2]));
            Due.is("their worth()", x.worth(), w[0] * alone[0] + w[1] * alone[1] + w[2] * alone[2]);
        }
        Sentence.of("Promise 8", "false: other numbers, all 0.");
        Twins.edges("weight of 0", 0, 9, (y, n) -> y.weights(n, 5, 6));
        Twins.edges("weight of 1", 0, 9, (y, n) -> y.weights(5, n, 6));
        Twins.edges("weight of 2", 0, 9, (y, n) -> y.weights(5, 6, n));
        Twins.refuse("weights(0, 0, 0)", y -> y.weights(0, 0, 0));
        Twins.edges("weight of 0 alone", 1, 9, (y, n) -> y.weights(n, 0, 0));
        Twins.edges("weight of 1 alone", 1, 9, (y, n) -> y.weights(0, n, 0));
        Twins.edges("weight of 2 alone", 1, 9, (y, n) -> y.weights(0, 0, n));
        Twins.refuse("weights(-1, 0, 1), 0 together", y -> y.weights(-1, 0, 1));
        Twins.refuse("a sum that goes round", y -> y.weights(LEAST, LEAST, 1));
    }

    private static void price() {
        Sentence.of("Promise 9", "The price of an HOUR in a WORLD: true;");
        for (int world = 0; world < 3; world++) {
            Counted x = new Counted();
            x.machine(0, 0, 1, 0, 1, 0);
            for (int hour = 0; hour < 24; hour++) {
                for (int other = 0; other < 3; other++) {
                    Due.yes("price(" + other + ", " + hour + ")", x.price(other, hour, other * 300 + hour - 99));
                }
            }
            for (int hour = 0; hour < 24; hour++) {
                Due.is("HOUR " + hour + " in WORLD " + world, x.done(1, 0, world), world * 300 + hour - 99);
            }
        }
        Sentence.of("Promise 9", "false: none such, another price.");
        Twins.edges("WORLD", 0, 2, (x, n) -> x.price(n, 12, 77));
        Twins.edges("HOUR", 0, 23, (x, n) -> x.price(0, n, 77));
        Twins.edges("HOUR of WORLD 2", 0, 23, (x, n) -> x.price(2, n, 77));
        for (int world = 0; world < 3; world++) {
            int in = world;
            Twins.edges("price in WORLD " + world, -99, 999, (x, n) -> x.price(in, 12, n));
        }
    }

    private static void reveal() {
        Sentence.of("Promise 10", "REVEAL: true;");
        Counted x = TermsSentences.hiddenWorlds();
        for (int hour = 24; hour >= 0; hour--) {
            Due.yes("reveal(" + hour + ")", x.reveal(hour));
            Due.is("count(8)", x.count(8), hour);
            Due.is("worth()", x.worth(), 480 - 10 * hour);
            Due.is("mode(1, 0)", x.mode(1, 0), hour == 0 ? 0 : 1);
        }
        Days.standStill(x, 23);
        Due.yes("NOW is 23: reveal(23)", x.reveal(23));
        Due.is("known in HOUR 23", x.mode(1, 0), 0);
        Due.yes("NOW is 23: reveal(24)", x.reveal(24));
        Due.is("hidden in HOUR 23", x.mode(1, 0), 1);
        Days.standStill(x, 1);
        Due.yes("NOW is 24: reveal(0)", x.reveal(0));
        Due.is("count(8)", x.count(8), 0);
        Sentence.of("Promise 10", "false: another HOUR.");
        Twins.edges("REVEAL", 0, 24, (y, n) -> y.reveal(n));
    }

    private static void end() {
        Sentence.of("Promise 11", "The END price: true;");
        for (int now = 0; now <= 24; now += 12) {
            Counted x = Days.at(now);
            Days.nothingFrom(x, 0);
            for (int n : new int[] {999, 0, 1, 998}) {
                Due.yes("end(" + n + ")", x.end(n));
                Due.is("NOW is " + now + ", END " + n + ": worth()", x.worth(), 20 * n);
                Due.is("NOW is " + now + ", END " + n + ": water(39)", x.water(39), n);
            }
            x.reserve(23, 99);
            Due.is("NOW is " + now + ", no PLAN", x.worth(), now < 24 ? NEVER : 20 * 998);
        }
        Sentence.of("Promise 11", "false: another one.");
        Twins.edges("END", 0, 999, (x, n) -> x.end(n));
    }
}
