/** Each sentence of the document's second and third chapter: what is LEGAL, MONEY, PLAN, WORTH, WATER, DONE. */
final class DoingSentences {
    private static final int NONE = -1;
    private static final int NEVER = -1000000000;

    private DoingSentences() {
    }

    static void all() {
        doing();
        levelsLow();
        levelsHigh();
        levelsSpeed();
        reserveBounds();
        reserveSum();
        reserveUnits();
        money();
        plan();
        worth();
        best();
        ties();
        weightless();
        water();
        done();
    }

    private static void doing() {
        Sentence.of("Terms", "A DOING of an HOUR: two MODES. LEGAL: each MACHINE's change of MODE, and it is not OUT;");
        Counted x = new Counted();
        x.done(1, 2, 0);
        Due.legals("each change", x, 1, 0, 1, 1, 0, 1, 0, 0, 0);
        x.out(0, 1, 1, true);
        Due.legals("and 0 is OUT", x, 1, 0, 1, 0, 0, 0, 0, 0, 0);
        x.out(1, 1, 1, true);
        Due.legals("and 1 is OUT", x, 1, 0, 0, 0, 0, 0, 0, 0, 0);
        Counted y = new Counted();
        y.out(0, 1, 1, true);
        Due.legals("OUT in another HOUR", y, 1, 1, 1, 1, 1, 1, 1, 1, 1);
    }

    private static void levelsLow() {
        Sentence.of("Terms", "the levels behind it, UPPER + INFLOW - let down + lifted, "
            + "LOWER + let down - lifted - OUTFLOW, are 0 at least,");
        Counted x = new Counted();
        x.lakes(40, 40, 3, 20);
        Due.legals("3 in the UPPER", x, 1, 1, 1, 1, 0, 1, 1, 1, 1);
        x.lakes(40, 40, 2, 20);
        Due.legals("2 in the UPPER", x, 1, 0, 1, 0, 0, 1, 1, 1, 1);
        x.flows(0, 1, 0);
        Due.legals("2 and 1 of INFLOW", x, 1, 1, 1, 1, 0, 1, 1, 1, 1);
        x.flows(0, 4, 0);
        Due.legals("2 and 4 of INFLOW", x, 1, 1, 1, 1, 1, 1, 1, 1, 1);
        x.flows(0, 0, 0);
        x.lakes(40, 40, 1, 20);
        Due.legals("1 in the UPPER: 3 down and 2 up", x, 1, 0, 1, 0, 0, 1, 1, 1, 1);
        x.lakes(40, 40, 0, 20);
        Due.legals("it is empty", x, 1, 0, 1, 0, 0, 0, 1, 0, 1);
        x.lakes(40, 40, 20, 2);
        Due.legals("2 in the LOWER", x, 1, 1, 1, 1, 1, 1, 1, 1, 0);
        x.flows(0, 0, 1);
        Due.legals("2 and 1 of OUTFLOW", x, 1, 1, 0, 1, 1, 1, 0, 1, 0);
        x.flows(0, 0, 3);
        Due.legals("2 and 3 of OUTFLOW", x, 0, 1, 0, 1, 1, 1, 0, 1, 0);
        x.flows(0, 0, 4);
        Due.legals("2 and 4 of OUTFLOW", x, 0, 1, 0, 1, 1, 0, 0, 0, 0);
        x.flows(0, 0, 8);
        Due.legals("2 and 8 of OUTFLOW", x, 0, 0, 0, 0, 1, 0, 0, 0, 0);
        x.flows(0, 0, 9);
        Due.legals("2 and 9 of OUTFLOW", x, 0, 0, 0, 0, 0, 0, 0, 0, 0);
    }

    private static void levelsHigh() {
        Sentence.of("Terms", "are 0 at least, not above A, B,");
        Counted x = new Counted();
        x.lakes(30, 40, 28, 20);
        Due.legals("28 of 30 in the UPPER", x, 1, 1, 1, 1, 1, 1, 1, 1, 0);
        x.lakes(30, 40, 29, 20);
        Due.legals("29 of 30", x, 1, 1, 0, 1, 1, 1, 0, 1, 0);
        x.flows(0, 1, 0);
        Due.legals("29 and 1 of INFLOW", x, 1, 1, 0, 1, 1, 1, 0, 1, 0);
        x.flows(0, 3, 0);
        Due.legals("29 and 3 of INFLOW", x, 0, 1, 0, 1, 1, 0, 0, 0, 0);
        x.flows(0, 7, 0);
        Due.legals("29 and 7 of INFLOW", x, 0, 0, 0, 0, 1, 0, 0, 0, 0);
        x.flows(0, 8, 0);
        Due.legals("29 and 8 of INFLOW", x, 0, 0, 0, 0, 0, 0, 0, 0, 0);
        x.flows(0, 0, 0);
        x.lakes(40, 30, 20, 27);
        Due.legals("27 of 30 in the LOWER", x, 1, 1, 1, 1, 0, 1, 1, 1, 1);
        x.lakes(40, 30, 20, 28);
        Due.legals("28 of 30", x, 1, 0, 1, 0, 0, 1, 1, 1, 1);
        x.flows(0, 0, 1);
        Due.legals("28 and 1 of OUTFLOW", x, 1, 1, 1, 1, 0, 1, 1, 1, 1);
        x.lakes(40, 30, 20, 30);
        x.flows(0, 0, 0);
        Due.legals("it is full", x, 1, 0, 1, 0, 0, 0, 1, 0, 1);
    }

    private static void levelsSpeed() {
        Sentence.of("Terms", "not farther from those ahead than the lakes' speeds;");
        Counted x = new Counted();
        x.speeds(6, 40);
        Due.is("6 down at 6", x.legal(1, 1), 1);
        x.speeds(5, 40);
        Due.is("6 down at 5", x.legal(1, 1), 0);
        x.flows(0, 1, 0);
        Due.is("6 down, 1 of INFLOW at 5", x.legal(1, 1), 1);
        x.flows(0, 0, 0);
        x.speeds(4, 40);
        Due.is("4 up at 4", x.legal(2, 2), 1);
        x.flows(0, 1, 0);
        Due.is("4 up, 1 of INFLOW at 4", x.legal(2, 2), 0);
        x.flows(0, 0, 0);
        x.speeds(40, 6);
        Due.is("LOWER: 6 down at 6", x.legal(1, 1), 1);
        x.speeds(40, 5);
        Due.is("LOWER: 6 down at 5", x.legal(1, 1), 0);
        x.flows(0, 0, 1);
        Due.is("LOWER: 6 down, 1 of OUTFLOW at 5", x.legal(1, 1), 1);
        x.flows(0, 0, 0);
        x.speeds(40, 4);
        Due.is("LOWER: 4 up at 4", x.legal(2, 2), 1);
        x.flows(0, 0, 1);
        Due.is("LOWER: 4 up, 1 of OUTFLOW at 4", x.legal(2, 2), 0);
        x.flows(0, 2, 0);
        x.speeds(1, 40);
        Due.is("the INFLOW alone is too fast", x.legal(0, 0), 0);
        Due.is("DOWN slows it", x.legal(1, 0), 1);
    }

    private static void reserveBounds() {
        Sentence.of("Terms", "and RESERVE: so much is promised for an HOUR (0 to 99; 0 at first):");
        // both DOWN leaves nothing for the net: LEGAL only if nothing is promised
        for (int hour = 0; hour < 24; hour++) {
            Counted x = Days.at(hour);
            Due.is("HOUR " + hour + " at first", x.legal(1, 1), 1);
            Due.yes("reserve(" + hour + ", 1)", x.reserve(hour, 1));
            Due.is("HOUR " + hour + ", 1 is promised", x.legal(1, 1), 0);
            Due.yes("reserve(" + hour + ", 0)", x.reserve(hour, 0));
            Due.is("HOUR " + hour + ", 0 is promised", x.legal(1, 1), 1);
        }
        Counted x = new Counted();
        x.machine(0, 3, 99, 2, 98, 5);
        Due.yes("reserve(0, 99)", x.reserve(0, 99));
        Due.is("99 for 99", x.legal(0, 1), 1);
        Due.is("98 for 99", x.legal(2, 1), 0);
        Due.no("reserve(0, 100)", x.reserve(0, 100));
        Due.no("reserve(0, -1)", x.reserve(0, -1));
        Due.is("still 98 for 99", x.legal(2, 1), 0);
        Counted y = new Counted();
        y.reserve(1, 99);
        Due.legals("promised for another HOUR", y, 1, 1, 1, 1, 1, 1, 1, 1, 1);
    }

    private static void reserveSum() {
        Sentence.of("Terms", "the sum of what DOWN of each MACHINE that is STILL and not OUT would give, and of what each "
            + "that is UP takes, is that at least;");
        int[] gives = {7, 20};
        int[] takes = {31, 44};
        for (int outs = 0; outs < 4; outs++) {
            for (int doing = 0; doing < 9; doing++) {
                int[] modes = {doing / 3, doing % 3};
                boolean[] isOut = {outs % 2 == 1, outs / 2 == 1};
                int sum = 0;
                boolean can = true;
                for (int k = 0; k < 2; k++) {
                    can &= modes[k] == 0 || !isOut[k];
                    sum += modes[k] == 2 ? takes[k] : modes[k] == 0 && !isOut[k] ? gives[k] : 0;
                }
                reserveOf(isOut, modes, sum, can ? 1 : 0);
            }
        }
    }

    /** LEGAL with a promise of that sum, not with one more. */
    private static void reserveOf(boolean[] isOut, int[] modes, int sum, int want) {
        Counted x = new Counted();
        x.machine(0, 3, 7, 2, 31, 5);
        x.machine(1, 3, 20, 2, 44, 5);
        x.out(0, 0, 0, isOut[0]);
        x.out(1, 0, 0, isOut[1]);
        String outs = (isOut[0] ? "0 OUT, " : "") + (isOut[1] ? "1 OUT, " : "");
        String call = outs + "legal(" + modes[0] + ", " + modes[1] + ")";
        Due.yes("reserve(0, " + sum + ")", x.reserve(0, sum));
        Due.is(call + " for " + sum, x.legal(modes[0], modes[1]), want);
        Due.yes("reserve(0, " + (sum + 1) + ")", x.reserve(0, sum + 1));
        Due.is(call + " for " + (sum + 1), x.legal(modes[0], modes[1]), 0);
    }

    private static void reserveUnits() {
        Sentence.of("Terms", "if more than 0 is promised the UPPER has ahead of the HOUR the units at least that all "
            + "MACHINES that are STILL and not OUT, or DOWN, let down in an HOUR of DOWN together.");
        Counted x = new Counted();
        x.machine(0, 4, 10, 2, 10, 5);
        x.machine(1, 7, 10, 2, 10, 5);
        x.flows(0, 9, 0);
        x.reserve(0, 1);
        // both let down, or would: 11; one is UP: 7 or 4; both are UP: 0; both DOWN keep no promise
        x.lakes(40, 40, 11, 20);
        Due.legals("11 units", x, 1, 1, 1, 1, 0, 1, 1, 1, 1);
        x.lakes(40, 40, 10, 20);
        Due.legals("10 units, the INFLOW does not count", x, 0, 0, 1, 0, 0, 1, 1, 1, 1);
        x.lakes(40, 40, 7, 20);
        Due.legals("7 units", x, 0, 0, 1, 0, 0, 1, 1, 1, 1);
        x.lakes(40, 40, 6, 20);
        Due.legals("6 units", x, 0, 0, 1, 0, 0, 1, 0, 0, 1);
        x.lakes(40, 40, 4, 20);
        Due.legals("4 units", x, 0, 0, 1, 0, 0, 1, 0, 0, 1);
        x.lakes(40, 40, 3, 20);
        Due.legals("3 units", x, 0, 0, 0, 0, 0, 0, 0, 0, 1);
        x.lakes(40, 40, 0, 20);
        Due.legals("no units", x, 0, 0, 0, 0, 0, 0, 0, 0, 1);
        x.lakes(40, 40, 4, 20);
        x.out(1, 0, 0, true);
        Due.legals("4 units, 1 is OUT", x, 1, 0, 0, 0, 0, 0, 1, 0, 0);
        x.lakes(40, 40, 3, 20);
        Due.legals("3 units, 1 is OUT", x, 0, 0, 0, 0, 0, 0, 1, 0, 0);
        x.out(1, 0, 0, false);
        x.lakes(40, 40, 2, 20);
        x.reserve(0, 0);
        Due.legals("2 units and 9 of INFLOW, nothing is promised", x, 1, 1, 1, 1, 1, 1, 1, 1, 1);
    }

    private static void money() {
        Sentence.of("Terms", "MONEY of it in a WORLD: price * (energy given - energy taken) - starts: a MACHINE starts that "
            + "was STILL in the HOUR ahead and is not in this one.");
        int[][] way = {{0, 0}, {1, 2}, {1, 2}, {0, 2}, {0, 0}, {2, 1}, {2, 0}, {2, 1}, {0, 1}, {1, 0}};
        int[] starts = {0, 11 + 13, 0, 0, 0, 11 + 13, 0, 13, 0, 11};
        int[] energy = {0, 7 - 30, 7 - 30, -30, 0, 20 - 3, -3, 20 - 3, 20, 7};
        int[] price = {999, -99, -1, 0, 1, 999, 10, 20, -7, 4};
        int[] startsOf0 = {0, 1, 1, 1, 1, 2, 2, 2, 2, 3};
        int[] startsOf1 = {0, 1, 1, 1, 1, 2, 2, 3, 3, 3};
        int purse = 0;
        Counted x = new Counted();
        x.machine(0, 1, 7, 1, 3, 11);
        x.machine(1, 1, 20, 1, 30, 13);
        for (int hour = 0; hour < way.length; hour++) {
            int world = hour % 3;
            x.price(world, hour, price[hour]);
            int money = price[hour] * energy[hour] - starts[hour];
            Due.is("HOUR " + hour, x.done(way[hour][0], way[hour][1], world), money);
            purse += money;
            Due.is("purse", x.count(5), purse);
            Due.is("starts of 0", x.count(6), startsOf0[hour]);
            Due.is("starts of 1", x.count(7), startsOf1[hour]);
        }
    }

    private static void plan() {
        Sentence.of("Terms", "PLAN: DOINGS for the HOURS from NOW to 23, all LEGAL:");
        for (int now = 0; now <= 24; now++) {
            Counted x = Days.at(now);
            if (now > 0) {
                Due.yes("an HOUR that is past can't be LEGAL", x.reserve(now - 1, 99));
                Due.yes("NOW " + now + ": there is a PLAN", x.worth() != NEVER);
            }
            if (now < 24) {
                x.reserve(23, 99);
                Due.is("NOW " + now + ", HOUR 23 can't be LEGAL: worth()", x.worth(), NEVER);
                x.reserve(23, 0);
                x.reserve(now, 99);
                Due.is("NOW " + now + ", NOW can't be LEGAL: worth()", x.worth(), NEVER);
            }
        }
        Sentence.of("Terms", "those ahead of REVEAL for all WORLDS alike, from REVEAL on for each WORLD its own.");
        for (int now = 0; now <= 24; now++) {
            for (int reveal = Math.max(0, now - 1); reveal <= Math.min(24, now + 1); reveal++) {
                Counted x = TermsSentences.hiddenWorlds();
                Days.standStill(x, now);
                x.reveal(reveal);
                int alike = Math.max(0, reveal - now);
                Due.is("NOW " + now + ", REVEAL " + reveal + ": worth()", x.worth(),
                    10 * alike + 20 * (24 - now - alike));
            }
        }
        // hidden, a start is paid in each WORLD
        Counted x = TermsSentences.hiddenWorlds();
        x.machine(0, 0, 1, 0, 0, 8);
        x.reveal(24);
        Due.is("a start in each WORLD", x.worth(), 240 - 3 * 8);
    }

    private static void worth() {
        Sentence.of("Terms", "WORTH: the sum over WORLDS of weight * (MONEY of all its HOURS + units in the UPPER behind "
            + "HOUR 23 * the END price, 0 to 999, 0 at first).");
        Counted x = new Counted();
        Days.nothingFrom(x, 0);
        Due.is("END 0 at first", x.worth(), 0);
        x.flows(23, 5, 0);
        for (int end : new int[] {0, 1, 998, 999}) {
            Due.yes("end(" + end + ")", x.end(end));
            x.weights(1, 0, 0);
            Due.is("20 units, 5 in HOUR 23, END " + end, x.worth(), 25 * end);
            x.weights(9, 8, 7);
            Due.is("20 units, 5 in HOUR 23, END " + end, x.worth(), 24 * 25 * end);
        }
        Due.no("end(1000)", x.end(1000));
        Due.no("end(-1)", x.end(-1));
        Due.is("END as it was", x.worth(), 24 * 25 * 999);
        // 1 of energy for no water in HOUR 0 alone, at another price in each WORLD
        Counted y = new Counted();
        y.machine(0, 0, 1, 0, 0, 0);
        y.machine(1, 0, 0, 0, 0, 0);
        Days.nothingFrom(y, 1);
        for (int world = 0; world < 3; world++) {
            y.price(world, 0, world == 0 ? 1 : world == 1 ? 30 : 700);
        }
        y.weights(9, 1, 2);
        y.end(2);
        Due.is("the sum over WORLDS", y.worth(), 9 * 1 + 30 + 2 * 700 + 12 * 20 * 2);
    }

    private static void best() {
        Sentence.of("Terms", "THE BEST: the most WORTH. Its DOING of NOW, told for the WORLD "
            + "(which counts only if NOW is not ahead of REVEAL):");
        Counted x = new Counted();
        Days.nothingFrom(x, 1);
        x.weights(1, 1, 1);
        x.price(0, 0, 1);
        x.price(1, 0, 0);
        x.price(2, 0, -1);
        int[][] own = {{1, 1}, {0, 0}, {2, 2}};
        Due.is("WORTH", x.worth(), 2 * (2 * 10 - 2 * 5));
        for (int world = 0; world < 3; world++) {
            Due.is("REVEAL is NOW: mode(" + world + ", 0)", x.mode(world, 0), own[world][0]);
            Due.is("REVEAL is NOW: mode(" + world + ", 1)", x.mode(world, 1), own[world][1]);
        }
        x.reveal(1);
        Due.is("WORTH of all alike", x.worth(), 0);
        x.weights(1, 1, 4);
        Due.is("WORTH of all alike", x.worth(), 2 * (3 * 10 - 6 * 5));
        x.price(2, 0, -2);
        Due.is("WORTH of all alike", x.worth(), 2 * (7 * 10 - 6 * 5));
        for (int world = 0; world < 3; world++) {
            Due.is("ahead of REVEAL: mode(" + world + ", 0)", x.mode(world, 0), 2);
            Due.is("ahead of REVEAL: mode(" + world + ", 1)", x.mode(world, 1), 2);
        }
    }

    private static void modesAre(String when, Counted x, int a, int b) {
        Due.is(when + ": mode(0, 0)", x.mode(0, 0), a);
        Due.is(when + ": mode(0, 1)", x.mode(0, 1), b);
    }

    private static void ties() {
        Sentence.of("Terms", "of all best ones that with the least MODE of MACHINE 0, then of 1.");
        Counted x = new Counted();
        modesAre("to let down now or later", x, 0, 0);
        x.machine(0, 0, 0, 0, 0, 0);
        x.machine(1, 0, 0, 0, 0, 0);
        modesAre("all nine", x, 0, 0);
        Counted y = new Counted();
        y.lakes(3, 3, 3, 0);
        Days.nothingFrom(y, 1);
        modesAre("one of both", y, 0, 1);
        y.out(1, 0, 0, true);
        modesAre("1 is OUT", y, 1, 0);
        y.out(1, 0, 0, false);
        y.price(0, 0, -1);
        y.lakes(2, 2, 0, 2);
        modesAre("one of both is UP", y, 0, 2);
        // 10 by DOWN of 0, by UP of 1 (a unit at the END), not by both, as 5 are promised
        Counted z = new Counted();
        Days.nothingFrom(z, 1);
        z.price(0, 0, 1);
        z.end(10);
        z.machine(0, 0, 10, 0, 0, 0);
        z.machine(1, 0, 5, 1, 0, 0);
        z.reserve(0, 5);
        Due.is("10 by 0, 2 and by 1, 0", z.worth(), 21 * 10);
        modesAre("0, 2 ahead of 1, 0", z, 0, 2);
        z.machine(0, 0, 11, 0, 0, 0);
        modesAre("1, 0 is better", z, 1, 0);
        z.reserve(0, 0);
        z.machine(0, 0, 10, 1, 0, 0);
        z.machine(1, 0, 10, 1, 0, 0);
        modesAre("1, 1 ahead of 1, 2 and 2, 1", z, 1, 1);
        z.machine(1, 0, 9, 1, 0, 0);
        modesAre("1, 2 ahead of 2, 2", z, 1, 2);
        z.machine(0, 0, 9, 1, 0, 0);
        modesAre("2, 2 is better", z, 2, 2);
        z.machine(1, 0, 10, 1, 0, 0);
        modesAre("2, 1 ahead of 2, 2", z, 2, 1);
    }

    private static void weightless() {
        Sentence.of("Terms", "A WORLD of weight 0 has a PLAN, too, from REVEAL on: the most MONEY with END.");
        Counted x = new Counted();
        Days.nothingFrom(x, 1);
        x.machine(0, 1, 1, 1, 1, 0);
        x.out(1, 0, 0, true);
        x.price(2, 0, 20);
        x.end(19);
        Due.is("20 for a unit of 19: mode(2, 0)", x.mode(2, 0), 1);
        x.end(20);
        Due.is("20 for a unit of 20: mode(2, 0)", x.mode(2, 0), 0);
        x.end(21);
        Due.is("a unit of 21 for 20: mode(2, 0)", x.mode(2, 0), 2);
        Due.is("for 10: mode(0, 0)", x.mode(0, 0), 2);
        Due.is("its MONEY has no weight: worth()", x.worth(), 21 * 21 - 10);
        x.end(5);
        x.price(0, 0, 4);
        Due.is("mode(0, 0)", x.mode(0, 0), 2);
        Due.is("mode(2, 0)", x.mode(2, 0), 1);
        x.reveal(1);
        Due.is("ahead of REVEAL: mode(2, 0)", x.mode(2, 0), 2);
        x.reveal(0);
        Due.is("runs(1, 2)", x.runs(1, 2), 1);
        Due.counts("its own PLAN is done", x, 1, 19, 21, 1, 0, 20);
    }

    private static void water() {
        Sentence.of("Terms", "WATER's price at a level x (of the UPPER, the LOWER being as it is): WORTH of the BEST with "
            + "x + 1 units less that with x, MODES as they are.");
        Counted x = new Counted();
        x.lakes(40, 40, 20, 37);
        // room for 3 units in the LOWER: one HOUR of DOWN, whatever is above
        Due.is("water(2)", x.water(2), 95);
        Due.is("water(3)", x.water(3), 0);
        Due.is("water(1)", x.water(1), 0);
        Due.is("water(5)", x.water(5), 0);
        x.lakes(40, 40, 1, 34);
        Due.is("water(5), room for 6", x.water(5), 100);
        Due.is("water(8), room for 6", x.water(8), 0);
        Counted y = new Counted();
        Due.is("STILL: water(2)", y.water(2), 95);
        y.done(1, 0, 0);
        Due.is("DOWN: water(2)", y.water(2), 100);
        Due.counts("asking changes nothing", y, 1, 17, 23, 1, 0, 95);
        Counted z = new Counted();
        Days.nothingFrom(z, 0);
        z.end(7);
        z.weights(9, 0, 1);
        for (int level = 0; level < 40; level++) {
            Due.is("ten times 7: water(" + level + ")", z.water(level), 70);
        }
        z.flows(23, 1, 0);
        Due.is("one more and the INFLOW, full: water(38)", z.water(38), 70);
        Due.is("too full: water(39)", z.water(39), NEVER);
    }

    private static void done() {
        Sentence.of("Terms", "DONE: an HOUR is done with two MODES, if that is LEGAL, in a WORLD: its MONEY is added to the "
            + "purse; NOW grows.");
        Counted x = new Counted();
        x.price(1, 0, 20);
        x.price(2, 1, -20);
        Due.is("done(1, 0, 1)", x.done(1, 0, 1), 195);
        Due.counts("behind", x, 1, 17, 23, 1, 0, 195, 1, 0);
        Due.is("done(1, 1, 2)", x.done(1, 1, 2), -405);
        Due.counts("the purse may be below 0", x, 2, 11, 29, 1, 1, -210, 1, 1);
        Due.is("legal(2, 1)", x.legal(2, 1), 0);
        Due.refused(x, 2, 1, 0);
        Due.counts("not LEGAL", x, 2, 11, 29, 1, 1, -210, 1, 1);
        Due.is("no HOUR is left out", x.done(0, 0, 0), 0);
        Due.counts("NOW grows by one", x, 3, 11, 29, 0, 0, -210, 1, 1);
        Due.is("NONE is none of them", x.legal(0, 3), NONE);
    }
}
