/**
 * A TwoLakes that counts its calls. Behind the 512th the document promises nothing, so a test that
 * asks for more is wrong itself, and stops here.
 */
final class Counted {
    static final int MOST_CALLS = 512;
    private final TwoLakes x = new TwoLakes();
    private int calls = 0;

    private TwoLakes next() {
        if (calls == MOST_CALLS) {
            throw new IllegalStateException("this test asks an object behind its 512th call");
        }
        calls++;
        return x;
    }

    int callsLeft() {
        return MOST_CALLS - calls;
    }

    boolean lakes(int a, int b, int upper, int lower) {
        return next().lakes(a, b, upper, lower);
    }

    boolean speeds(int upper, int lower) {
        return next().speeds(upper, lower);
    }

    boolean flows(int hour, int in, int out) {
        return next().flows(hour, in, out);
    }

    boolean machine(int k, int down, int gives, int up, int takes, int start) {
        return next().machine(k, down, gives, up, takes, start);
    }

    boolean out(int k, int from, int to, boolean yes) {
        return next().out(k, from, to, yes);
    }

    boolean reserve(int hour, int n) {
        return next().reserve(hour, n);
    }

    boolean weights(int a, int b, int c) {
        return next().weights(a, b, c);
    }

    boolean price(int world, int hour, int n) {
        return next().price(world, hour, n);
    }

    boolean reveal(int hour) {
        return next().reveal(hour);
    }

    boolean end(int n) {
        return next().end(n);
    }

    int legal(int a, int b) {
        return next().legal(a, b);
    }

    int worth() {
        return next().worth();
    }

    int mode(int world, int k) {
        return next().mode(world, k);
    }

    int water(int x) {
        return next().water(x);
    }

    int done(int a, int b, int world) {
        return next().done(a, b, world);
    }

    int runs(int hours, int world) {
        return next().runs(hours, world);
    }

    int count(int what) {
        return next().count(what);
    }
}
