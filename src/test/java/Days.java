/** Objects to start a test from. */
final class Days {
    private Days() {
    }

    /** HOURS ahead of that one were done, both machines STILL. */
    static Counted at(int hour) {
        Counted x = new Counted();
        standStill(x, hour);
        return x;
    }

    static void standStill(Counted x, int hours) {
        for (int i = 0; i < hours; i++) {
            Due.is("done(0, 0, 0)", x.done(0, 0, 0), 0);
        }
    }

    /** NOW is 0, and every number is another one than at first. */
    static Counted odd() {
        Counted x = new Counted();
        boolean taken = x.lakes(37, 35, 17, 16) && x.speeds(9, 8) && x.weights(3, 2, 1) && x.reveal(5) && x.end(7);
        taken &= x.machine(0, 4, 17, 3, 19, 7) && x.machine(1, 2, 9, 1, 8, 3);
        taken &= x.out(0, 9, 10, true) && x.out(1, 20, 20, true);
        taken &= x.reserve(4, 5) && x.reserve(13, 8) && x.reserve(23, 3);
        for (int hour = 0; hour < 24; hour++) {
            taken &= x.flows(hour, hour % 3, (hour + 1) % 3) && x.price(hour % 3, hour, 12 + hour * 5 % 31);
        }
        Due.yes("an odd day can be", taken);
        return x;
    }

    /** An odd day in its HOUR 7, the world being known. */
    static Counted midday() {
        Counted x = odd();
        Due.is("runs(7, 1)", x.runs(7, 1), 7);
        return x;
    }

    static Counted over() {
        Counted x = odd();
        Due.is("runs(24, 2)", x.runs(24, 2), 24);
        return x;
    }

    /** All prices of a world. */
    static void prices(Counted x, int world, int n) {
        for (int hour = 0; hour < 24; hour++) {
            Due.yes("price(" + world + ", " + hour + ", " + n + ")", x.price(world, hour, n));
        }
    }

    /** Both machines are OUT from that HOUR on, so that nothing but the HOURS ahead of it counts. */
    static void nothingFrom(Counted x, int hour) {
        for (int k = 0; k < 2; k++) {
            Due.yes("out(" + k + ", " + hour + ", 23, true)", x.out(k, hour, 23, true));
        }
    }
}
