/** Each sentence under "Terms" of the document: its bounds and first values, and what lies right beside them. */
final class TermsSentences {
    private static final int NONE = -1;
    private static final int NEVER = -1000000000;

    private TermsSentences() {
    }

    static void all() {
        calls();
        hours();
        upperHolds();
        lowerHolds();
        speeds();
        flows();
        modes();
        machineAtFirst();
        machineUnits();
        machineEnergy();
        change();
        out();
        weight();
        price();
        reveal();
        constants();
    }

    private static void calls() {
        Sentence.of("What it is", "An object is used for at most 512 calls after it has been made");
        Counted x = new Counted();
        for (int call = 1; call <= 510; call++) {
            Due.yes("call " + call + ": end", x.end(call % 2 == 0 ? 4 : 8));
        }
        Due.is("call 511: worth()", x.worth(), 595 + 2 * 4);
        Due.is("call 512: done(1, 0, 0)", x.done(1, 0, 0), 95);
        Due.is("no call is left", x.callsLeft(), 0);
    }

    private static void hours() {
        Sentence.of("Terms", "HOURS are 0 to 23; NOW is the next one, 0 at first, 24 behind the last.");
        Counted x = new Counted();
        for (int hour = 0; hour < 24; hour++) {
            Due.is("NOW", x.count(0), hour);
            Due.is("NOW is an HOUR: legal(0, 0)", x.legal(0, 0), 1);
            Due.is("done(0, 0, 0)", x.done(0, 0, 0), 0);
        }
        Due.is("NOW behind the last HOUR", x.count(0), 24);
        Due.refused(x, 0, 0, 0);
        Due.is("runs(1, 0)", x.runs(1, 0), 0);
        Due.is("NOW does not grow any more", x.count(0), 24);
        Due.yes("HOUR 0", x.flows(0, 1, 1));
        Due.yes("HOUR 23", x.flows(23, 1, 1));
        Due.no("HOUR -1", x.flows(-1, 1, 1));
        Due.no("HOUR 24", x.flows(24, 1, 1));
    }

    private static void upperHolds() {
        Sentence.of("Terms", "THE UPPER lake holds up to A units, THE LOWER one up to B (1 to 40 each; 40 at first), "
            + "both 20 at first;");
        Counted x = new Counted();
        Due.counts("at first", x, 0, 20, 20);
        x.flows(0, 9, 0);
        x.flows(1, 9, 0);
        x.flows(2, 3, 0);
        Days.standStill(x, 2);
        Due.is("41 units at first", x.legal(0, 0), 0);
        x.flows(2, 2, 0);
        Due.is("40 units at first", x.legal(0, 0), 1);
        for (int a : new int[] {1, 2, 17, 39, 40}) {
            Counted y = new Counted();
            Due.yes("A is " + a, y.lakes(a, 40, a, 20));
            y.flows(0, 1, 0);
            Due.is("A units and 1 of INFLOW", y.legal(0, 0), 0);
            y.flows(0, 0, 0);
            Due.is("A units", y.legal(0, 0), 1);
            y.machine(0, 1, 1, 1, 1, 1);
            Due.is("A units and 1 lifted", y.legal(2, 0), 0);
            Due.yes("A is " + a, y.lakes(a, 40, a - 1, 20));
            Due.is("A - 1 units and 1 lifted", y.legal(2, 0), 1);
        }
        Counted y = new Counted();
        Due.no("A is 0", y.lakes(0, 40, 0, 20));
        Due.no("A is 41", y.lakes(41, 40, 20, 20));
    }

    private static void lowerHolds() {
        Sentence.of("Terms", "THE LOWER one up to B (1 to 40 each; 40 at first), both 20 at first;");
        Counted x = new Counted();
        x.flows(0, 1, 0);
        x.machine(0, 21, 1, 1, 1, 1);
        Due.is("41 units at first", x.legal(1, 0), 0);
        x.machine(0, 20, 1, 1, 1, 1);
        Due.is("40 units at first", x.legal(1, 0), 1);
        for (int b : new int[] {1, 2, 17, 39, 40}) {
            Counted y = new Counted();
            y.machine(0, 1, 1, 1, 1, 1);
            Due.yes("B is " + b, y.lakes(40, b, 20, b));
            Due.is("B units", y.legal(0, 0), 1);
            Due.is("B units and 1 let down", y.legal(1, 0), 0);
            y.flows(0, 0, 1);
            Due.is("B units and 1 let down, 1 of OUTFLOW", y.legal(1, 0), 1);
            y.flows(0, 0, 0);
            Due.yes("B is " + b, y.lakes(40, b, 20, b - 1));
            Due.is("B - 1 units and 1 let down", y.legal(1, 0), 1);
        }
        Counted y = new Counted();
        Due.no("B is 0", y.lakes(40, 0, 20, 0));
        Due.no("B is 41", y.lakes(40, 41, 20, 20));
    }

    private static void speeds() {
        Sentence.of("Terms", "in an HOUR a level may change by so many units at most (1 to 40; 40 at first).");
        Counted x = new Counted();
        x.lakes(40, 40, 40, 0);
        x.machine(0, 40, 1, 40, 1, 1);
        Due.is("40 units at first: down", x.legal(1, 0), 1);
        x.lakes(40, 40, 0, 40);
        Due.is("40 units at first: up", x.legal(2, 0), 1);
        for (int speed : new int[] {1, 2, 9, 39, 40}) {
            changeOfSpeed(speed, speed, 1);
            if (speed < 40) {
                changeOfSpeed(speed, speed + 1, 0);
            }
        }
        Counted y = new Counted();
        Due.no("speed 0", y.speeds(0, 40));
        Due.no("speed 41", y.speeds(41, 40));
        Due.no("speed 0 of the LOWER", y.speeds(40, 0));
        Due.no("speed 41 of the LOWER", y.speeds(40, 41));
    }

    /** A change by so many units of either lake, upwards and downwards, the other lake's speed being 40. */
    private static void changeOfSpeed(int speed, int change, int want) {
        for (int lake = 0; lake < 2; lake++) {
            Counted x = new Counted();
            Due.yes("speed " + speed, lake == 0 ? x.speeds(speed, 40) : x.speeds(40, speed));
            x.machine(0, change, 1, change, 1, 1);
            x.lakes(40, 40, 40, 0);
            Due.is("lake " + lake + ", speed " + speed + ": " + change + " units down", x.legal(1, 0), want);
            x.lakes(40, 40, 0, 40);
            Due.is("lake " + lake + ", speed " + speed + ": " + change + " units up", x.legal(2, 0), want);
        }
    }

    private static void flows() {
        Sentence.of("Terms", "INFLOW of an HOUR comes into the UPPER, OUTFLOW leaves the LOWER "
            + "(0 to 9 each; 0 at first).");
        Counted x = new Counted();
        for (int hour = 0; hour < 24; hour++) {
            Due.is("done(0, 0, 0)", x.done(0, 0, 0), 0);
            Due.counts("nothing flows at first", x, hour + 1, 20, 20);
        }
        for (int hour = 0; hour < 24; hour += 23) {
            Counted y = Days.at(hour);
            Due.yes("INFLOW 9", y.flows(hour, 9, 0));
            Due.is("done(0, 0, 0)", y.done(0, 0, 0), 0);
            Due.counts("9 came in", y, hour + 1, 29, 20);
            Counted z = Days.at(hour);
            Due.yes("OUTFLOW 9", z.flows(hour, 0, 9));
            Due.is("done(0, 0, 0)", z.done(0, 0, 0), 0);
            Due.counts("9 left", z, hour + 1, 20, 11);
        }
        Counted y = new Counted();
        Due.no("INFLOW 10", y.flows(0, 10, 0));
        Due.no("INFLOW -1", y.flows(0, -1, 0));
        Due.no("OUTFLOW 10", y.flows(0, 0, 10));
        Due.no("OUTFLOW -1", y.flows(0, 0, -1));
    }

    private static void modes() {
        Sentence.of("Terms", "MACHINES 0 and 1: a MODE: 0 STILL (both are, ahead of HOUR 0), 1 DOWN, 2 UP.");
        int[] upper = {20, 17, 22};
        for (int mode = 0; mode <= 2; mode++) {
            Counted x = new Counted();
            Due.counts("both are STILL", x, 0, 20, 20, 0, 0);
            int start = mode == 0 ? 0 : -5;
            int price = mode == 0 ? 0 : mode == 1 ? 100 : -100;
            Due.is("MACHINE 0 in MODE " + mode, x.done(mode, 0, 0), price + start);
            Due.counts("MACHINE 0 in MODE " + mode, x, 1, upper[mode], 40 - upper[mode], mode, 0);
            Counted y = new Counted();
            Due.is("MACHINE 1 in MODE " + mode, y.done(0, mode, 0), price + start);
            Due.counts("MACHINE 1 in MODE " + mode, y, 1, upper[mode], 40 - upper[mode], 0, mode);
        }
        Counted x = new Counted();
        Due.is("MODE 3 of 0", x.legal(3, 0), NONE);
        Due.is("MODE -1 of 0", x.legal(-1, 0), NONE);
        Due.is("MODE 3 of 1", x.legal(0, 3), NONE);
        Due.is("MODE -1 of 1", x.legal(0, -1), NONE);
        Due.no("MACHINE 2", x.out(2, 0, 0, true));
        Due.no("MACHINE -1", x.out(-1, 0, 0, true));
    }

    private static void machineAtFirst() {
        Sentence.of("Terms", "In an HOUR of DOWN a MACHINE lets so many units from the UPPER to the LOWER lake and gives "
            + "so much energy, UP it lifts so many and takes so much; a start costs so much (all 0 to 99; 3 units and "
            + "10 of energy, 2 units and 10, a start 5 at first).");
        Counted x = new Counted();
        x.price(0, 0, 7);
        Due.is("DOWN, UP at 7", x.done(1, 2, 0), 7 * (10 - 10) - 5 - 5);
        Due.counts("3 down, 2 up", x, 1, 19, 21);
        Due.is("go on at 10, the other STILL", x.done(1, 0, 0), 100);
        Due.counts("3 down", x, 2, 16, 24);
        Counted y = new Counted();
        Due.is("UP, DOWN", y.done(2, 1, 0), -10);
        Due.counts("2 up, 3 down", y, 1, 19, 21);
        Due.is("go on, the other STILL", y.done(2, 0, 0), -100);
        Due.counts("2 up", y, 2, 21, 19);
    }

    private static void machineUnits() {
        Sentence.of("Terms", "lets so many units from the UPPER to the LOWER lake and gives so much energy, UP it lifts so "
            + "many and takes so much; a start costs so much (all 0 to 99;");
        // 99 units fit into no lake, but 99 up beside 99 down do
        for (int k = 0; k < 2; k++) {
            Counted x = new Counted();
            int other = 1 - k;
            Due.yes("99 units DOWN", x.machine(k, 99, 1, 0, 1, 0));
            Due.yes("99 units UP", x.machine(other, 0, 1, 99, 1, 0));
            Due.is("99 DOWN alone", k == 0 ? x.legal(1, 0) : x.legal(0, 1), 0);
            Due.is("99 UP alone", k == 0 ? x.legal(0, 2) : x.legal(2, 0), 0);
            Due.is("99 DOWN and 99 UP", k == 0 ? x.done(1, 2, 0) : x.done(2, 1, 0), 0);
            Due.counts("99 DOWN and 99 UP", x, 1, 20, 20);
            Due.yes("98 units UP", x.machine(other, 0, 1, 98, 1, 0));
            Due.is("99 DOWN and 98 UP", k == 0 ? x.done(1, 2, 0) : x.done(2, 1, 0), 0);
            Due.counts("99 DOWN and 98 UP", x, 2, 19, 21);
            Due.yes("no units", x.machine(k, 0, 1, 0, 1, 0));
            Due.yes("no units", x.machine(other, 0, 1, 0, 1, 0));
            Due.is("0 DOWN and 0 UP", k == 0 ? x.done(1, 2, 0) : x.done(2, 1, 0), 0);
            Due.counts("0 DOWN and 0 UP", x, 3, 19, 21);
        }
    }

    private static void machineEnergy() {
        Sentence.of("Terms", "gives so much energy, UP it lifts so many and takes so much; a start costs so much "
            + "(all 0 to 99;");
        for (int k = 0; k < 2; k++) {
            for (int n : new int[] {0, 1, 98, 99}) {
                Counted x = new Counted();
                Due.yes("gives " + n, x.machine(k, 1, n, 1, 50, 0));
                Due.is("gives " + n, k == 0 ? x.done(1, 0, 0) : x.done(0, 1, 0), 10 * n);
                Counted y = new Counted();
                Due.yes("takes " + n, y.machine(k, 1, 50, 1, n, 0));
                Due.is("takes " + n, k == 0 ? y.done(2, 0, 0) : y.done(0, 2, 0), -10 * n);
                Counted z = new Counted();
                Due.yes("a start costs " + n, z.machine(k, 1, 50, 1, 50, n));
                Due.is("a start costs " + n, k == 0 ? z.done(1, 0, 0) : z.done(0, 1, 0), 500 - n);
            }
        }
        int[] others = {-1, 100};
        Counted x = new Counted();
        for (int n : others) {
            Due.no("units DOWN " + n, x.machine(0, n, 1, 1, 1, 1));
            Due.no("gives " + n, x.machine(0, 1, n, 1, 1, 1));
            Due.no("units UP " + n, x.machine(0, 1, 1, n, 1, 1));
            Due.no("takes " + n, x.machine(0, 1, 1, 1, n, 1));
            Due.no("a start " + n, x.machine(0, 1, 1, 1, 1, n));
        }
    }

    private static void change() {
        Sentence.of("Terms", "From DOWN to UP, from UP to DOWN no MACHINE goes without an HOUR of STILL between.");
        for (int before = 0; before < 9; before++) {
            Counted x = new Counted();
            x.done(before / 3, before % 3, 0);
            for (int then = 0; then < 9; then++) {
                boolean turns = turns(before / 3, then / 3) || turns(before % 3, then % 3);
                Due.is("MODES " + before / 3 + ", " + before % 3 + ": legal(" + then / 3 + ", " + then % 3 + ")",
                    x.legal(then / 3, then % 3), turns ? 0 : 1);
            }
            Due.is("an HOUR of STILL", x.done(0, 0, 0), 0);
            Due.legals("behind an HOUR of STILL", x, 1, 1, 1, 1, 1, 1, 1, 1, 1);
        }
        Counted x = new Counted();
        x.done(1, 2, 0);
        Due.refused(x, 2, 2, 0);
        Due.refused(x, 1, 1, 0);
        Due.counts("nothing was done", x, 1, 19, 21, 1, 2);
    }

    private static boolean turns(int before, int then) {
        return before == 1 && then == 2 || before == 2 && then == 1;
    }

    private static void out() {
        Sentence.of("Terms", "OUT in an HOUR it can only be STILL.");
        Counted x = new Counted();
        Due.legals("none is OUT at first", x, 1, 1, 1, 1, 1, 1, 1, 1, 1);
        x.out(0, 0, 0, true);
        Due.legals("0 is OUT", x, 1, 1, 1, 0, 0, 0, 0, 0, 0);
        x.out(1, 0, 0, true);
        Due.legals("both are OUT", x, 1, 0, 0, 0, 0, 0, 0, 0, 0);
        x.out(0, 0, 0, false);
        Due.legals("1 is OUT", x, 1, 0, 0, 1, 0, 0, 1, 0, 0);
        Counted y = new Counted();
        y.out(0, 1, 1, true);
        Due.is("DOWN ahead of it", y.done(1, 0, 0), 95);
        Due.is("it can't go on", y.legal(1, 0), 0);
        Due.refused(y, 1, 0, 0);
        Due.is("it goes STILL", y.done(0, 0, 0), 0);
        Due.is("behind it, with a new start", y.done(1, 0, 0), 95);
    }

    private static void weight() {
        Sentence.of("Terms", "WORLDS 0 to 2: each has a weight (0 to 9, not all 0; 1, 0, 0 at first) and a price");
        Counted x = new Counted();
        for (int world = 1; world <= 2; world++) {
            Days.prices(x, world, 999);
        }
        Due.is("1, 0, 0 at first: worth()", x.worth(), 595);
        Due.yes("weights(0, 0, 1)", x.weights(0, 0, 1));
        Due.is("worth()", x.worth(), 6 * 9990 - 5);
        Counted y = new Counted();
        int[][] taken = {{9, 0, 0}, {0, 9, 0}, {0, 0, 9}, {1, 0, 0}, {0, 1, 0}, {0, 0, 1}, {9, 9, 9}};
        for (int[] w : taken) {
            Due.yes("weights(" + w[0] + ", " + w[1] + ", " + w[2] + ")", y.weights(w[0], w[1], w[2]));
            Due.is("their worth()", y.worth(), (w[0] + w[1] + w[2]) * 595);
        }
        int[][] refused = {{0, 0, 0}, {10, 0, 0}, {0, 10, 0}, {0, 0, 10}, {-1, 1, 1}, {1, -1, 1}, {1, 1, -1}};
        for (int[] w : refused) {
            Due.no("weights(" + w[0] + ", " + w[1] + ", " + w[2] + ")", y.weights(w[0], w[1], w[2]));
            Due.is("worth() as it was", y.worth(), 27 * 595);
        }
        Due.no("price in WORLD -1", y.price(-1, 0, 1));
        Due.no("price in WORLD 3", y.price(3, 0, 1));
    }

    private static void price() {
        Sentence.of("Terms", "and a price of each HOUR (-99 to 999; 10 at first).");
        for (int world = 0; world < 3; world++) {
            // 1 of energy for no water
            Counted x = new Counted();
            x.machine(0, 0, 1, 0, 1, 0);
            for (int hour = 0; hour < 24; hour++) {
                Due.is("HOUR " + hour + " of WORLD " + world + " at first", x.done(1, 0, world), 10);
            }
            for (int hour = 0; hour < 24; hour += 23) {
                Counted y = Days.at(hour);
                y.machine(0, 0, 1, 0, 1, 0);
                Due.yes("-99", y.price(world, hour, -99));
                Due.no("-100", y.price(world, hour, -100));
                Due.is("-99 in HOUR " + hour, y.done(1, 0, world), -99);
                Counted z = Days.at(hour);
                z.machine(0, 0, 1, 0, 1, 0);
                Due.yes("999", z.price(world, hour, 999));
                Due.no("1000", z.price(world, hour, 1000));
                Due.is("999 in HOUR " + hour, z.done(1, 0, world), 999);
            }
        }
    }

    /**
     * DOWN costs no water and brings 10 in WORLD 0, which has the weight 2, and -10 in the others, of
     * which 1 has the weight 1: as long as they are hidden all go DOWN, and then only WORLD 0 does.
     */
    private static void reveal() {
        Sentence.of("Terms", "From HOUR REVEAL on (0 to 24; 0 at first) it is known which WORLD it is.");
        for (int reveal = 0; reveal <= 24; reveal++) {
            Counted x = hiddenWorlds();
            if (reveal == 0) {
                Due.is("at first: count(8)", x.count(8), 0);
            } else {
                Due.yes("reveal(" + reveal + ")", x.reveal(reveal));
            }
            Due.is("REVEAL " + reveal + ": worth()", x.worth(), 10 * reveal + 20 * (24 - reveal));
            for (int hour = 0; hour < 24; hour++) {
                String when = "REVEAL " + reveal + ", HOUR " + hour;
                Due.is(when + ": mode(0, 0)", x.mode(0, 0), 1);
                Due.is(when + ": mode(1, 0)", x.mode(1, 0), hour < reveal ? 1 : 0);
                Due.is(when + ": mode(2, 0)", x.mode(2, 0), hour < reveal ? 1 : 0);
                x.done(0, 0, 0);
            }
        }
        Counted x = new Counted();
        Due.no("reveal(-1)", x.reveal(-1));
        Due.no("reveal(25)", x.reveal(25));
    }

    static Counted hiddenWorlds() {
        Counted x = new Counted();
        x.machine(0, 0, 1, 0, 0, 0);
        x.out(1, 0, 23, true);
        Days.prices(x, 1, -10);
        Days.prices(x, 2, -10);
        x.weights(2, 1, 0);
        return x;
    }

    private static void constants() {
        Sentence.of("Terms", "The constants: `NONE = -1`: None.");
        Due.is("NONE", TwoLakes.NONE, NONE);
        Sentence.of("Terms", "`NEVER = -1000000000`: WORTH that can't be.");
        Due.is("NEVER", TwoLakes.NEVER, NEVER);
        Counted x = new Counted();
        x.reserve(23, 99);
        Due.is("WORTH that can't be", x.worth(), NEVER);
        // the least that can be: 198 of energy taken at 999 in all HOURS in all WORLDS
        Counted y = new Counted();
        y.machine(0, 0, 0, 0, 99, 99);
        y.machine(1, 0, 0, 0, 99, 99);
        y.weights(9, 9, 9);
        for (int hour = 0; hour < 24; hour++) {
            y.reserve(hour, 99);
            for (int world = 0; world < 3; world++) {
                y.price(world, hour, 999);
            }
        }
        Due.is("far below 0, but it can be", y.worth(), -27 * (24 * 999 * 99 + 99));
    }
}
