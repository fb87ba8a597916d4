/**
 * A StartupProbes whose calls are counted. What it answers after its 512th call is free, so that a
 * test that asks for it is wrong itself. Its worlds can be swapped: they are alike, so that every
 * answer is due with the one in the other's place too.
 */
final class Counted {
    private static final int LIMIT = 512;

    private final StartupProbes probes = new StartupProbes();
    private final boolean swapped;
    private int calls;

    Counted(boolean swapped) {
        this.swapped = swapped;
    }

    int callsLeft() {
        return LIMIT - calls;
    }

    int order(int type, int order, int number) {
        count();
        return probes.order(type, order, number);
    }

    int noOrders(int type) {
        count();
        return probes.noOrders(type);
    }

    int build(int world) {
        count();
        return probes.build(placeOf(world));
    }

    int probe(int world, int type, int manner) {
        count();
        return probes.probe(placeOf(world), type, manner);
    }

    int answer() {
        count();
        return probes.answer();
    }

    int wrong() {
        count();
        return probes.wrong();
    }

    int events(int world) {
        count();
        return probes.events(placeOf(world));
    }

    int event(int world, int i) {
        count();
        return probes.event(placeOf(world), i);
    }

    private int placeOf(int world) {
        return swapped && (world == 0 || world == 1) ? 1 - world : world;
    }

    private void count() {
        if (calls == LIMIT) {
            throw new IllegalStateException("this test makes more calls than an object is used for");
        }
        calls++;
    }
}
