/** Each promise of the document with ordinary numbers, at its edges and with wrong numbers. */
public final class PromisesTest {
    private static final int NONE = -1;
    private static final int NEVER = -1000000000;

    public static void main(String[] args) {
        newObject();
        lakes();
        lakesHold();
        speeds();
        flows();
        machine();
        machineCounts();
        out();
        reserve();
        reserveOfUnits();
        weights();
        price();
        reveal();
        end();
        legal();
        worth();
        mode();
        modeOfTies();
        water();
        done();
        runs();
        count();
        nothingStale();
        Due.end();
    }

    /** All prices of a world at once. */
    private static void prices(Counted x, int world, int n) {
        for (int hour = 0; hour < 24; hour++) {
            Due.yes("price(" + world + ", " + hour + ", " + n + ")", x.price(world, hour, n));
        }
    }

    private static void newObject() {
        Counted x = new Counted();
        Due.counts("new", x, 0, 20, 20, 0, 0, 0, 0, 0, 0, NONE);
        Due.legals("new", x, 1, 1, 1, 1, 1, 1, 1, 1, 1);
        // six hours of DOWN of one machine at 10 * 10, one start
        Due.is("new: worth()", x.worth(), 595);
        Due.is("done(1, 2, 0)", x.done(1, 2, 0), -10);
        Due.counts("behind", x, 1, 19, 21, 1, 2, -10, 1, 1, 0);
        Counted y = new Counted();
        Due.is("the price of world 2 is 10, too", y.done(1, 1, 2), 190);
        roomsAndSpeedsAtFirst();
        Counted z = new Counted();
        Due.is("done(2, 2, 1)", z.done(2, 2, 1), -210);
        Due.counts("pumped", z, 1, 24, 16, 2, 2, -210, 1, 1, 0);
    }

    private static void roomsAndSpeedsAtFirst() {
        Counted x = new Counted();
        Due.yes("machine 0", x.machine(0, 20, 1, 20, 1, 0));
        Due.yes("machine 1", x.machine(1, 21, 1, 21, 1, 0));
        Due.legals("both hold 40", x, 1, 0, 0, 1, 0, 1, 1, 1, 0);
        Due.yes("lakes(40, 40, 40, 0)", x.lakes(40, 40, 40, 0));
        Due.yes("machine 0", x.machine(0, 40, 1, 40, 1, 0));
        Due.is("40 units down in an HOUR", x.legal(1, 0), 1);
        Due.yes("flows(0, 1, 1)", x.flows(0, 1, 1));
        Due.is("40 units, less 1", x.legal(1, 0), 1);
    }

    private static void lakes() {
        Counted x = new Counted();
        Due.no("room 0", x.lakes(0, 40, 0, 0));
        Due.no("room 41", x.lakes(41, 40, 0, 0));
        Due.no("lower room 0", x.lakes(40, 0, 0, 0));
        Due.no("lower room 41", x.lakes(40, 41, 0, 0));
        Due.no("room below all", x.lakes(Integer.MIN_VALUE, 40, 0, 0));
        Due.no("upper -1", x.lakes(40, 40, -1, 0));
        Due.no("upper above", x.lakes(5, 40, 6, 0));
        Due.no("lower -1", x.lakes(40, 40, 0, -1));
        Due.no("lower above", x.lakes(40, 5, 0, 6));
        Due.no("lower far above", x.lakes(40, 5, 0, Integer.MAX_VALUE));
        Due.counts("refused", x, 0, 20, 20);
        Due.is("refused: worth()", x.worth(), 595);
        Due.yes("the least", x.lakes(1, 1, 0, 0));
        Due.counts("the least", x, 0, 0, 0);
        Due.yes("full", x.lakes(1, 1, 1, 1));
        Due.counts("full", x, 0, 1, 1);
        Due.yes("the most", x.lakes(40, 40, 40, 40));
        Due.counts("the most", x, 0, 40, 40);
        Due.is("done(0, 0, 0)", x.done(0, 0, 0), 0);
        Due.no("NOW is 1", x.lakes(40, 40, 1, 1));
        Due.counts("NOW is 1", x, 1, 40, 40);
    }

    private static void lakesHold() {
        Counted x = new Counted();
        Due.yes("lakes(5, 40, 3, 20)", x.lakes(5, 40, 3, 20));
        Due.legals("upper of 5 at 3", x, 1, 1, 1, 1, 0, 1, 1, 1, 0);
        Due.yes("lakes(40, 8, 20, 5)", x.lakes(40, 8, 20, 5));
        Due.legals("lower of 8 at 5", x, 1, 1, 1, 1, 0, 1, 1, 1, 1);
        Due.yes("lakes(40, 8, 20, 3)", x.lakes(40, 8, 20, 3));
        Due.legals("lower at 3", x, 1, 1, 1, 1, 0, 1, 1, 1, 0);
        Due.yes("lakes(40, 40, 2, 1)", x.lakes(40, 40, 2, 1));
        Due.legals("2 above, 1 below", x, 1, 0, 0, 0, 0, 1, 0, 1, 0);
    }

    private static void speeds() {
        Counted x = new Counted();
        Due.no("speeds(0, 40)", x.speeds(0, 40));
        Due.no("speeds(41, 40)", x.speeds(41, 40));
        Due.no("speeds(40, 0)", x.speeds(40, 0));
        Due.no("speeds(40, 41)", x.speeds(40, 41));
        Due.legals("refused", x, 1, 1, 1, 1, 1, 1, 1, 1, 1);
        Due.yes("speeds(3, 40)", x.speeds(3, 40));
        Due.legals("upper 3", x, 1, 1, 1, 1, 0, 1, 1, 1, 0);
        Due.yes("speeds(40, 2)", x.speeds(40, 2));
        Due.legals("lower 2", x, 1, 0, 1, 0, 0, 1, 1, 1, 0);
        Due.yes("speeds(1, 1)", x.speeds(1, 1));
        Due.legals("1, 1", x, 1, 0, 0, 0, 0, 1, 0, 1, 0);
        Due.yes("flows(0, 3, 0)", x.flows(0, 3, 0));
        Due.yes("speeds(2, 40)", x.speeds(2, 40));
        Due.legals("the inflow counts", x, 0, 1, 0, 1, 0, 1, 0, 1, 0);
        Due.yes("flows(0, 0, 3)", x.flows(0, 0, 3));
        Due.yes("speeds(40, 2)", x.speeds(40, 2));
        Due.legals("the outflow counts", x, 0, 1, 0, 1, 0, 1, 0, 1, 0);
        Due.yes("speeds(40, 40)", x.speeds(40, 40));
        Due.legals("the most", x, 1, 1, 1, 1, 1, 1, 1, 1, 1);
    }

    private static void flows() {
        Counted x = new Counted();
        Due.no("flows(-1, 1, 1)", x.flows(-1, 1, 1));
        Due.no("flows(24, 1, 1)", x.flows(24, 1, 1));
        Due.no("flows(0, -1, 1)", x.flows(0, -1, 1));
        Due.no("flows(0, 10, 1)", x.flows(0, 10, 1));
        Due.no("flows(0, 1, -1)", x.flows(0, 1, -1));
        Due.no("flows(0, 1, 10)", x.flows(0, 1, 10));
        Due.is("done(0, 0, 0)", x.done(0, 0, 0), 0);
        Due.counts("refused", x, 1, 20, 20);
        Due.yes("flows(1, 9, 4)", x.flows(1, 9, 4));
        Due.yes("flows(23, 0, 0)", x.flows(23, 0, 0));
        Due.is("done(1, 2, 0)", x.done(1, 2, 0), -10);
        Due.counts("flowed", x, 2, 28, 17);
        Due.yes("an HOUR that is past", x.flows(0, 9, 9));
        Due.counts("nothing flows in the past", x, 2, 28, 17);
        Counted y = new Counted();
        Due.yes("lakes(20, 20, 20, 0)", y.lakes(20, 20, 20, 0));
        Due.yes("flows(0, 3, 0)", y.flows(0, 3, 0));
        Due.legals("it would flow over", y, 0, 1, 0, 1, 1, 0, 0, 0, 0);
        Due.yes("flows(0, 0, 3)", y.flows(0, 0, 3));
        Due.legals("it would fall dry", y, 0, 1, 0, 1, 1, 0, 0, 0, 0);
        Due.yes("flows(23, 9, 0)", y.flows(23, 9, 0));
        Due.yes("flows(0, 9, 0)", y.flows(0, 9, 0));
        Due.is("the outlet is too small", y.legal(1, 1), 0);
        Due.is("no plan", y.worth(), NEVER);
    }

    private static void machine() {
        Counted x = new Counted();
        Due.no("machine -1", x.machine(-1, 1, 1, 1, 1, 1));
        Due.no("machine 2", x.machine(2, 1, 1, 1, 1, 1));
        for (int wrong = -1; wrong <= 100; wrong += 101) {
            Due.no("down " + wrong, x.machine(0, wrong, 1, 1, 1, 1));
            Due.no("gives " + wrong, x.machine(0, 1, wrong, 1, 1, 1));
            Due.no("up " + wrong, x.machine(0, 1, 1, wrong, 1, 1));
            Due.no("takes " + wrong, x.machine(0, 1, 1, 1, wrong, 1));
            Due.no("start " + wrong, x.machine(0, 1, 1, 1, 1, wrong));
        }
        Due.is("refused: worth()", x.worth(), 595);
        Due.is("refused: done(1, 0, 0)", x.done(1, 0, 0), 95);
        Due.counts("refused", x, 1, 17, 23);
        Due.yes("all 0", x.machine(0, 0, 0, 0, 0, 0));
        Due.yes("all 99", x.machine(1, 99, 99, 99, 99, 99));
        Due.legals("99 are too many", x, 1, 0, 0, 1, 0, 0, 0, 0, 0);
    }

    private static void machineCounts() {
        Counted x = new Counted();
        Due.yes("machine 0", x.machine(0, 4, 7, 1, 3, 11));
        Due.yes("machine 1", x.machine(1, 6, 20, 5, 30, 13));
        Due.is("done(1, 2, 0)", x.done(1, 2, 0), 10 * (7 - 30) - 24);
        Due.counts("4 down, 5 up", x, 1, 21, 19);
        Due.is("done(1, 0, 0)", x.done(1, 0, 0), 70);
        Due.is("done(0, 1, 0)", x.done(0, 1, 0), 200 - 13);
        Due.is("done(2, 1, 0)", x.done(2, 1, 0), 10 * (20 - 3) - 11);
        Due.counts("behind", x, 4, 21 - 4 - 6 + 1 - 6, 19 + 4 + 6 - 1 + 6, 2, 1,
            -254 + 70 + 187 + 159, 2, 2, 0);
    }

    private static void out() {
        Counted x = new Counted();
        Due.no("out(-1, 0, 0, true)", x.out(-1, 0, 0, true));
        Due.no("out(2, 0, 0, true)", x.out(2, 0, 0, true));
        Due.no("out(0, -1, 0, true)", x.out(0, -1, 0, true));
        Due.no("out(0, 0, 24, true)", x.out(0, 0, 24, true));
        Due.no("out(0, 24, 24, true)", x.out(0, 24, 24, true));
        Due.no("out(0, 1, 0, true)", x.out(0, 1, 0, true));
        Due.legals("refused", x, 1, 1, 1, 1, 1, 1, 1, 1, 1);
        Due.yes("out(0, 0, 1, true)", x.out(0, 0, 1, true));
        Due.legals("0 is out", x, 1, 1, 1, 0, 0, 0, 0, 0, 0);
        Due.yes("out(1, 0, 23, true)", x.out(1, 0, 23, true));
        Due.legals("both are out", x, 1, 0, 0, 0, 0, 0, 0, 0, 0);
        Due.yes("out(1, 0, 0, false)", x.out(1, 0, 0, false));
        Due.legals("1 is back", x, 1, 1, 1, 0, 0, 0, 0, 0, 0);
        Due.is("done(0, 1, 0)", x.done(0, 1, 0), 95);
        Due.legals("it has to stop", x, 1, 0, 0, 0, 0, 0, 0, 0, 0);
        Due.is("done(0, 0, 0)", x.done(0, 0, 0), 0);
        Due.legals("0 is back behind HOUR 1", x, 1, 0, 0, 1, 0, 0, 1, 0, 0);
        Due.yes("to the last HOUR", x.out(0, 23, 23, true));
    }

    private static void reserve() {
        Counted x = new Counted();
        Due.no("reserve(-1, 1)", x.reserve(-1, 1));
        Due.no("reserve(24, 1)", x.reserve(24, 1));
        Due.no("reserve(0, -1)", x.reserve(0, -1));
        Due.no("reserve(0, 100)", x.reserve(0, 100));
        Due.legals("refused", x, 1, 1, 1, 1, 1, 1, 1, 1, 1);
        Due.yes("machine 0", x.machine(0, 3, 10, 2, 40, 5));
        Due.yes("machine 1", x.machine(1, 3, 20, 2, 50, 5));
        Due.yes("reserve(0, 1)", x.reserve(0, 1));
        Due.legals("1", x, 1, 1, 1, 1, 0, 1, 1, 1, 1);
        Due.yes("reserve(0, 20)", x.reserve(0, 20));
        Due.legals("20", x, 1, 0, 1, 1, 0, 1, 1, 1, 1);
        Due.yes("reserve(0, 30)", x.reserve(0, 30));
        Due.legals("30", x, 1, 0, 1, 0, 0, 1, 1, 1, 1);
        Due.yes("reserve(0, 60)", x.reserve(0, 60));
        Due.legals("60", x, 0, 0, 1, 0, 0, 0, 1, 0, 1);
        Due.yes("reserve(0, 61)", x.reserve(0, 61));
        Due.legals("61", x, 0, 0, 0, 0, 0, 0, 0, 0, 1);
        Due.yes("reserve(0, 91)", x.reserve(0, 91));
        Due.legals("91", x, 0, 0, 0, 0, 0, 0, 0, 0, 0);
        Due.is("none is LEGAL", x.worth(), NEVER);
        Due.yes("reserve(0, 20)", x.reserve(0, 20));
        Due.yes("out(1, 0, 0, true)", x.out(1, 0, 0, true));
        Due.legals("20, 1 is out", x, 0, 0, 0, 0, 0, 0, 1, 0, 0);
        Due.yes("reserve(23, 0)", x.reserve(23, 0));
        Due.yes("reserve(0, 99)", x.reserve(0, 99));
    }

    private static void reserveOfUnits() {
        Counted x = new Counted();
        Due.yes("lakes(40, 40, 5, 20)", x.lakes(40, 40, 5, 20));
        Due.yes("machine 1", x.machine(1, 4, 10, 2, 10, 5));
        Due.yes("flows(0, 9, 0)", x.flows(0, 9, 0));
        Due.yes("reserve(0, 1)", x.reserve(0, 1));
        Due.legals("7 units are not there ahead of the inflow", x, 0, 0, 1, 0, 0, 1, 1, 1, 1);
        Due.yes("out(0, 0, 0, true)", x.out(0, 0, 0, true));
        Due.legals("OUT needs none", x, 1, 0, 1, 0, 0, 0, 0, 0, 0);
        Due.yes("out(0, 0, 0, false)", x.out(0, 0, 0, false));
        Due.yes("reserve(0, 0)", x.reserve(0, 0));
        Due.legals("nothing is promised", x, 1, 1, 1, 1, 1, 1, 1, 1, 1);
        Due.yes("reserve(0, 1)", x.reserve(0, 1));
        Due.yes("lakes(40, 40, 7, 20)", x.lakes(40, 40, 7, 20));
        Due.legals("7 units are there", x, 1, 1, 1, 1, 0, 1, 1, 1, 1);
    }

    private static void weights() {
        Counted x = new Counted();
        Due.no("weights(-1, 1, 1)", x.weights(-1, 1, 1));
        Due.no("weights(10, 1, 1)", x.weights(10, 1, 1));
        Due.no("weights(1, -1, 1)", x.weights(1, -1, 1));
        Due.no("weights(1, 10, 1)", x.weights(1, 10, 1));
        Due.no("weights(1, 1, -1)", x.weights(1, 1, -1));
        Due.no("weights(1, 1, 10)", x.weights(1, 1, 10));
        Due.no("weights(0, 0, 0)", x.weights(0, 0, 0));
        Due.no("weights(-1, 0, 1)", x.weights(-1, 0, 1));
        Due.is("refused: worth()", x.worth(), 595);
        Due.yes("weights(1, 0, 1)", x.weights(1, 0, 1));
        Due.is("weights(1, 0, 1): worth()", x.worth(), 2 * 595);
        Due.yes("weights(9, 9, 9)", x.weights(9, 9, 9));
        Due.is("weights(9, 9, 9): worth()", x.worth(), 27 * 595);
        prices(x, 1, 20);
        prices(x, 2, 30);
        Due.yes("weights(0, 1, 0)", x.weights(0, 1, 0));
        Due.is("of world 1", x.worth(), 1195);
        Due.yes("weights(0, 0, 9)", x.weights(0, 0, 9));
        Due.is("of world 2", x.worth(), 9 * 1795);
        Due.yes("weights(9, 4, 2)", x.weights(9, 4, 2));
        Due.is("of all", x.worth(), 9 * 595 + 4 * 1195 + 2 * 1795);
    }

    private static void price() {
        Counted x = new Counted();
        Due.no("price(-1, 0, 1)", x.price(-1, 0, 1));
        Due.no("price(3, 0, 1)", x.price(3, 0, 1));
        Due.no("price(0, -1, 1)", x.price(0, -1, 1));
        Due.no("price(0, 24, 1)", x.price(0, 24, 1));
        Due.no("price(0, 0, -100)", x.price(0, 0, -100));
        Due.no("price(0, 0, 1000)", x.price(0, 0, 1000));
        Due.yes("price(2, 23, 5)", x.price(2, 23, 5));
        Due.yes("price(0, 0, 999)", x.price(0, 0, 999));
        Due.yes("price(0, 1, -99)", x.price(0, 1, -99));
        Due.yes("price(1, 2, 7)", x.price(1, 2, 7));
        Due.is("done(1, 0, 0)", x.done(1, 0, 0), 9985);
        Due.is("done(0, 2, 0)", x.done(0, 2, 0), 985);
        Due.is("done(0, 2, 1)", x.done(0, 2, 1), -70);
        Due.is("purse", x.count(5), 9985 + 985 - 70);
    }

    private static void reveal() {
        Counted x = new Counted();
        Due.no("reveal(-1)", x.reveal(-1));
        Due.no("reveal(25)", x.reveal(25));
        Due.is("count(8)", x.count(8), 0);
        // 3 units: to be sold in HOUR 0 or, in world 1 far better, in HOUR 1.
        prices(x, 0, 0);
        prices(x, 1, 0);
        Due.yes("lakes(3, 3, 3, 0)", x.lakes(3, 3, 3, 0));
        Due.yes("price(0, 0, 10)", x.price(0, 0, 10));
        Due.yes("price(1, 0, 10)", x.price(1, 0, 10));
        Due.yes("price(1, 1, 30)", x.price(1, 1, 30));
        Due.yes("weights(3, 1, 0)", x.weights(3, 1, 0));
        Due.is("known from HOUR 0 on", x.worth(), 3 * 95 + 295);
        Due.is("mode(0, 1)", x.mode(0, 1), 1);
        Due.is("mode(1, 1)", x.mode(1, 1), 0);
        Due.yes("reveal(1)", x.reveal(1));
        Due.is("count(8)", x.count(8), 1);
        Due.is("not known in HOUR 0", x.worth(), 4 * 95);
        Due.is("mode(0, 1)", x.mode(0, 1), 1);
        Due.is("mode(1, 1)", x.mode(1, 1), 1);
        Due.is("mode(2, 1)", x.mode(2, 1), 1);
        Due.yes("reveal(0)", x.reveal(0));
        Due.is("known from HOUR 0 on", x.worth(), 3 * 95 + 295);
        Due.is("mode(1, 1)", x.mode(1, 1), 0);
        Due.yes("reveal(24)", x.reveal(24));
        Due.is("mode(1, 1)", x.mode(1, 1), 1);
        Due.is("never known", x.worth(), 4 * 95);
        Due.yes("weights(1, 3, 0)", x.weights(1, 3, 0));
        Due.is("never known: HOUR 1 costs world 0 a start", x.worth(), 3 * 295 - 5);
        Due.is("mode(0, 1)", x.mode(0, 1), 0);
        Due.yes("reveal(1)", x.reveal(1));
        Due.is("world 0 needs no start", x.worth(), 3 * 295);
        Due.is("runs(1, 1)", x.runs(1, 1), 1);
        Due.is("mode(0, 1) from HOUR 1 on", x.mode(0, 1), 0);
        Due.is("mode(1, 1) from HOUR 1 on", x.mode(1, 1), 1);
        Due.yes("reveal(2)", x.reveal(2));
        Due.is("hidden again: mode(0, 1)", x.mode(0, 1), 1);
        Due.is("hidden again", x.worth(), 3 * 295 - 5);
    }

    private static void end() {
        Counted x = new Counted();
        Due.no("end(-1)", x.end(-1));
        Due.no("end(1000)", x.end(1000));
        Due.is("refused: worth()", x.worth(), 595);
        Due.yes("end(999)", x.end(999));
        // pumping 2 units a machine and HOUR at 100 of energy: all 20 units of the lower lake
        Due.is("end(999): worth()", x.worth(), 40 * 999 - 10 * 100 - 5);
        Due.yes("end(0)", x.end(0));
        Due.is("end(0): worth()", x.worth(), 595);
    }

    private static void legal() {
        Counted x = new Counted();
        Due.is("legal(-1, 0)", x.legal(-1, 0), NONE);
        Due.is("legal(3, 0)", x.legal(3, 0), NONE);
        Due.is("legal(0, -1)", x.legal(0, -1), NONE);
        Due.is("legal(0, 3)", x.legal(0, 3), NONE);
        x.done(1, 2, 0);
        Due.legals("behind DOWN, UP", x, 1, 0, 1, 1, 0, 1, 0, 0, 0);
        x.done(0, 2, 0);
        Due.legals("behind STILL, UP", x, 1, 0, 1, 1, 0, 1, 1, 0, 1);
        x.done(2, 0, 0);
        Due.legals("behind UP, STILL", x, 1, 1, 1, 0, 0, 0, 1, 1, 1);
        Due.is("runs(20, 0)", x.runs(20, 0), 20);
        Due.is("NOW is 23: legal(0, 0)", x.legal(0, 0), 1);
        Due.is("runs(24, 0)", x.runs(24, 0), 1);
        Due.legals("NOW is 24", x, NONE, NONE, NONE, NONE, NONE, NONE, NONE, NONE, NONE);
    }

    private static void worth() {
        Counted x = new Counted();
        Due.yes("weights(2, 0, 3)", x.weights(2, 0, 3));
        Due.yes("end(4)", x.end(4));
        // the price of two units at the end, 8, is below 3 units for 100: all that can be is let down
        Due.is("worth()", x.worth(), 5 * (595 + 2 * 4));
        Due.yes("reserve(23, 99)", x.reserve(23, 99));
        Due.is("no PLAN", x.worth(), NEVER);
        Due.is("no PLAN: mode(0, 0)", x.mode(0, 0), NONE);
        Due.is("no PLAN: water(3)", x.water(3), NEVER);
        Due.is("no PLAN: runs(3, 0)", x.runs(3, 0), 0);
        Due.is("no PLAN, but LEGAL: done(0, 0, 0)", x.done(0, 0, 0), 0);
        Due.yes("reserve(23, 20)", x.reserve(23, 20));
        // in HOUR 23 both stand by with 6 units
        Due.is("6 units stay", x.worth(), 5 * (395 + 8 * 4));
        Due.is("runs(24, 2)", x.runs(24, 2), 23);
        Due.is("what is left", x.worth(), 5 * 8 * 4);
        Due.yes("end(0)", x.end(0));
        Due.is("nothing is left", x.worth(), 0);
    }

    private static void mode() {
        Counted x = new Counted();
        Due.is("mode(-1, 0)", x.mode(-1, 0), NONE);
        Due.is("mode(3, 0)", x.mode(3, 0), NONE);
        Due.is("mode(0, -1)", x.mode(0, -1), NONE);
        Due.is("mode(0, 2)", x.mode(0, 2), NONE);
        Due.yes("price(0, 0, 99)", x.price(0, 0, 99));
        Due.is("mode(0, 0)", x.mode(0, 0), 1);
        Due.is("mode(0, 1)", x.mode(0, 1), 1);
        // world 1 has no weight, and a plan all the same
        Due.yes("price(1, 0, -99)", x.price(1, 0, -99));
        Due.is("mode(1, 0)", x.mode(1, 0), 2);
        Due.is("mode(1, 1)", x.mode(1, 1), 2);
        Due.is("mode(2, 0)", x.mode(2, 0), 0);
        Due.yes("reveal(1)", x.reveal(1));
        for (int world = 0; world < 3; world++) {
            Due.is("mode(" + world + ", 0) ahead of REVEAL", x.mode(world, 0), 1);
        }
        Due.is("mode(3, 0) ahead of REVEAL", x.mode(3, 0), NONE);
        Due.is("mode(-1, 0) ahead of REVEAL", x.mode(-1, 0), NONE);
        Due.is("runs(23, 0)", x.runs(23, 0), 23);
        Due.yes("mode(0, 0) at 23", x.mode(0, 0) >= 0);
        Due.is("runs(24, 0)", x.runs(24, 0), 1);
        Due.is("mode(0, 0) at 24", x.mode(0, 0), NONE);
    }

    private static void modeOfTies() {
        Counted x = new Counted();
        prices(x, 0, 0);
        Due.yes("machine 0", x.machine(0, 3, 10, 2, 10, 0));
        Due.yes("machine 1", x.machine(1, 3, 10, 2, 10, 0));
        Due.is("all are best: 0", x.mode(0, 0), 0);
        Due.is("all are best: 1", x.mode(0, 1), 0);
        Due.yes("price(0, 0, 1)", x.price(0, 0, 1));
        Due.yes("lakes(3, 3, 3, 0)", x.lakes(3, 3, 3, 0));
        Due.is("one of both: 0", x.mode(0, 0), 0);
        Due.is("one of both: 1", x.mode(0, 1), 1);
        Due.yes("out(1, 0, 0, true)", x.out(1, 0, 0, true));
        Due.is("only 0 can: 0", x.mode(0, 0), 1);
        Due.is("only 0 can: 1", x.mode(0, 1), 0);
        Due.yes("out(1, 0, 0, false)", x.out(1, 0, 0, false));
        // it flows over unless the one lets down, and the other may as well be STILL
        Due.yes("price(0, 0, 0)", x.price(0, 0, 0));
        Due.yes("flows(0, 2, 2)", x.flows(0, 2, 2));
        Due.is("one has to: 0", x.mode(0, 0), 0);
        Due.is("one has to: 1", x.mode(0, 1), 1);
    }

    private static void water() {
        Counted x = new Counted();
        Due.is("water(-1)", x.water(-1), NEVER);
        Due.is("water(40)", x.water(40), NEVER);
        Due.is("water(20), the lower lake would be too full", x.water(20), 0);
        Due.is("water(17)", x.water(17), 100);
        Due.is("water(19)", x.water(19), 0);
        Due.is("water(0)", x.water(0), 0);
        Due.is("water(2), the first sale", x.water(2), 95);
        Due.is("water(39)", x.water(39), 0);
        Due.counts("asking changes nothing", x, 0, 20, 20);
        Due.yes("lakes(5, 40, 0, 20)", x.lakes(5, 40, 0, 20));
        Due.is("water(4) of 5", x.water(4), 0);
        Due.is("water(5) of 5", x.water(5), NEVER);
        Due.yes("out(0, 0, 23, true)", x.out(0, 0, 23, true));
        Due.yes("out(1, 0, 23, true)", x.out(1, 0, 23, true));
        Due.yes("end(7)", x.end(7));
        Due.yes("flows(3, 2, 0)", x.flows(3, 2, 0));
        Due.is("room for 2 more at 3", x.water(2), 7);
        Due.is("none at 4", x.water(3), NEVER);
        Due.is("none at 4 and 5", x.water(4), NEVER);
        Due.yes("weights(2, 3, 4)", x.weights(2, 3, 4));
        Due.is("water(2) of all", x.water(2), 63);
        Due.is("runs(24, 0)", x.runs(24, 0), 24);
        Due.is("water(4) at 24", x.water(4), 63);
        Due.is("water(5) at 24", x.water(5), NEVER);
        // the MODES as they are: a machine that runs needs no start
        Counted y = new Counted();
        Due.is("done(1, 0, 0)", y.done(1, 0, 0), 95);
        Due.is("water(2), running", y.water(2), 100);
    }

    private static void done() {
        Counted x = new Counted();
        Due.refused(x, -1, 0, 0);
        Due.refused(x, 3, 0, 0);
        Due.refused(x, 0, -1, 0);
        Due.refused(x, 0, 3, 0);
        Due.refused(x, 0, 0, -1);
        Due.refused(x, 0, 0, 3);
        Due.refused(x, Integer.MAX_VALUE, Integer.MIN_VALUE, Integer.MAX_VALUE);
        Due.counts("refused", x, 0, 20, 20, 0, 0, 0, 0, 0);
        Due.is("done(1, 1, 0)", x.done(1, 1, 0), 190);
        Due.refused(x, 2, 0, 0);
        Due.refused(x, 0, 2, 0);
        Due.counts("not LEGAL", x, 1, 14, 26, 1, 1, 190, 1, 1);
        Due.is("done(1, 0, 2)", x.done(1, 0, 2), 100);
        Due.is("done(0, 2, 1)", x.done(0, 2, 1), -105);
        Due.counts("behind", x, 3, 13, 27, 0, 2, 185, 1, 2);
        for (int hour = 3; hour < 24; hour++) {
            Due.is("done(0, 0, 0)", x.done(0, 0, 0), 0);
        }
        Due.refused(x, 0, 0, 0);
        Due.counts("NOW is 24", x, 24, 13, 27, 0, 0, 185, 1, 2);
    }

    private static void runs() {
        Counted x = new Counted();
        Due.is("runs(-1, 0)", x.runs(-1, 0), NONE);
        Due.is("runs(25, 0)", x.runs(25, 0), NONE);
        Due.is("runs(1, -1)", x.runs(1, -1), NONE);
        Due.is("runs(1, 3)", x.runs(1, 3), NONE);
        Due.is("runs(0, 0)", x.runs(0, 0), 0);
        Due.counts("none done", x, 0, 20, 20);
        int worth = x.worth();
        Due.is("runs(10, 0)", x.runs(10, 0), 10);
        Due.is("count(0)", x.count(0), 10);
        Due.is("purse and what is to come", x.count(5) + x.worth(), worth);
        Due.is("runs(24, 0)", x.runs(24, 0), 14);
        Due.is("purse", x.count(5), worth);
        Due.counts("the day is over", x, 24, 2, 38);
        Due.is("runs(24, 0)", x.runs(24, 0), 0);
        Due.is("runs(0, 2)", x.runs(0, 2), 0);
        Due.is("runs(1, 3) at 24", x.runs(1, 3), NONE);
        // the doings of common plan ahead of REVEAL, of the world's own from then on
        Counted y = new Counted();
        prices(y, 0, 0);
        prices(y, 1, 0);
        prices(y, 2, 0);
        Due.yes("lakes(6, 6, 6, 0)", y.lakes(6, 6, 6, 0));
        Due.yes("weights(1, 1, 0)", y.weights(1, 1, 0));
        Due.yes("price(0, 0, 30)", y.price(0, 0, 30));
        Due.yes("price(1, 1, 40)", y.price(1, 1, 40));
        Due.yes("price(2, 1, -40)", y.price(2, 1, -40));
        Due.yes("reveal(1)", y.reveal(1));
        Due.is("both let down in HOUR 1 of world 1", y.worth(), 2 * (400 - 5));
        Due.is("runs(2, 2), of no weight", y.runs(2, 2), 2);
        Due.counts("world 2 has nothing to gain", y, 2, 6, 0, 0, 0, 0, 0, 0);
    }

    private static void count() {
        Counted x = new Counted();
        Due.is("count(-1)", x.count(-1), NONE);
        Due.is("count(9)", x.count(9), NONE);
        Due.is("count of the least", x.count(Integer.MIN_VALUE), NONE);
        Due.yes("reveal(24)", x.reveal(24));
        Due.yes("lakes(30, 30, 11, 12)", x.lakes(30, 30, 11, 12));
        x.done(1, 0, 0);
        x.done(0, 2, 0);
        x.done(1, 2, 0);
        Due.counts("behind", x, 3, 11 - 3 + 2 - 3 + 2, 12 + 3 - 2 + 3 - 2, 1, 2, 95 - 105 - 5, 2, 1, 24);
    }

    /** Every setter tells in the next answer, also behind answers that were given before. */
    private static void nothingStale() {
        Counted x = new Counted();
        Due.is("worth()", x.worth(), 595);
        x.lakes(40, 40, 21, 19);
        Due.is("lakes", x.worth(), 695);
        x.machine(0, 3, 10, 2, 10, 1);
        Due.is("machine", x.worth(), 699);
        x.price(0, 23, 11);
        Due.is("price: both sell in HOUR 23", x.worth(), 500 + 220 - 6);
        x.end(100);
        int dear = x.worth();
        Due.yes("end", dear > 2000);
        x.speeds(1, 40);
        Due.is("speeds", x.worth(), 21 * 100);
        x.speeds(40, 40);
        Due.is("speeds", x.worth(), dear);
        x.out(0, 0, 23, true);
        x.out(1, 0, 23, true);
        Due.is("out", x.worth(), 2100);
        x.flows(5, 1, 0);
        Due.is("flows", x.worth(), 2200);
        x.weights(2, 0, 1);
        Due.is("weights", x.worth(), 6600);
        x.reserve(7, 1);
        Due.is("reserve", x.worth(), NEVER);
    }
}
