import java.util.ArrayList;
import java.util.List;

/** What the tests of the document's sentences share: its numbers, an object, and checks of it. */
abstract class Bench {
    static final int REFUSED = -1;
    static final int FULL = -2;
    static final int ANSWERED = 0;
    static final int WRAPPED = 1;
    static final int BROKEN = 2;
    static final int LOST = 3;

    static final int ROOT = 0;
    static final int MIDDLE = 1;
    static final int LEAF = 2;
    static final int SOLO = 3;
    static final int KID = 4;
    static final int FIRM = 5;
    static final int LOOSE = 6;
    static final int PLAIN = 7;

    static final int NOTE = 0;
    static final int USE = 1;
    static final int THROW = 2;
    static final int BREAK = 3;
    static final int TRY = 4;
    static final int GUARD = 5;

    static final int MAKE = 0;
    static final int CALL = 1;
    static final int READ = 2;
    static final int WRITE = 3;
    static final int CONSTANT = 4;
    static final int AS_LEAF = 10;
    static final int IS_NOTHING_ONE = 11;
    static final int MAKE_BY_REFLECTION = 12;

    /** The manners that start the type they use; manner 10 starts ROOT, and the others none. */
    static final int[] STARTING = {0, 1, 2, 3, 7, 8, 9, 12, 13};
    static final int[] NOT_STARTING = {4, 5, 6, 11};

    static final int MIN = Integer.MIN_VALUE;
    static final int MAX = Integer.MAX_VALUE;

    /** The first out of range on both sides, and then some whose low bits are those of one that is in. */
    static final int[] NO_WORLDS = {-1, 2, -2, 3, 256, 1 << 16, MIN, MAX};
    static final int[] NO_TYPES = {-1, 8, -8, 9, 15, 16, 256, 1 << 16, MIN, MAX};
    static final int[] NO_ORDERS = {-1, 6, 7, 8, -8, 256, 1 << 16, MIN, MAX};
    static final int[] NO_MANNERS = {-1, 14, 15, 16, -16, 256, 1 << 16, MIN, MAX};

    static final int[] ANY_NUMBERS = {
        MIN, MIN + 1, -1000, -65, -64, -63, -1, 0, 1, 62, 63, 64, 65, 127, 128, MAX - 1, MAX
    };

    /** The events of a type's first start, where nothing was started before. */
    static final int[][] FIRST_START = {
        {100}, {100, 101}, {100, 101, 105, 102}, {103}, {103, 105, 104}, {105}, {106}, {107}
    };

    /** An order in which each type is started by its own use, as all those that it starts are done. */
    static final int[] IN_TURN = {FIRM, ROOT, MIDDLE, LEAF, SOLO, KID, LOOSE, PLAIN};
    /** Eight types with an event of their own and five orders each. */
    static final int MOST_EVENTS = 48;

    static Counted x;
    private static Due due;
    private static String sentence;
    private static boolean swapped;

    interface Calls {
        int on(Counted probes);
    }

    /** Holds all that is tested, first as it is written and then with the worlds swapped. */
    static void hold(String test, Runnable sentences) {
        due = new Due(test);
        swapped = false;
        sentences.run();
        swapped = true;
        sentences.run();
        due.end();
    }

    static Counted newObject() {
        return new Counted(swapped);
    }

    static void fresh(String name) {
        sentence = swapped ? name + " (worlds swapped)" : name;
        x = newObject();
    }

    static void is(String call, long got, long want) {
        due.is(sentence + ": " + call, got, want);
    }

    static void same(String what, List<Integer> got, List<Integer> want) {
        due.holds(sentence + ": " + what + " is " + want + ", not " + got, got.equals(want));
    }

    static void probe(int world, int type, int manner, int answer) {
        String call = "probe(" + world + ", " + type + ", " + manner + ")";
        is(call, x.probe(world, type, manner), ANSWERED);
        is("answer() after " + call, x.answer(), answer);
        is("wrong() after " + call, x.wrong(), 0);
    }

    static void goesWrong(int world, int type, int manner, int outcome, int number) {
        String call = "probe(" + world + ", " + type + ", " + manner + ")";
        int answer = x.answer();
        is(call, x.probe(world, type, manner), outcome);
        is("wrong() after " + call, x.wrong(), number);
        is("answer() after " + call, x.answer(), answer);
    }

    /** All events of a world, the first one first; no more than can be asked for. */
    static void events(int world, int... events) {
        is("events(" + world + ")", x.events(world), events.length);
        for (int i = 0; i < events.length; i++) {
            is("event(" + world + ", " + i + ")", x.event(world, i), events[events.length - 1 - i]);
        }
    }

    /** Has a world of a new object note so many events: all of them, the first one first. */
    static int[] noteEvents(int world, int count) {
        int[] noted = new int[count];
        int n = 0;
        for (int t = 0; n < count; t++) {
            noted[n++] = 100 + IN_TURN[t];
            for (int k = 0; k < 5 && n < count; k++) {
                noted[n] = 7000 + n;
                x.order(IN_TURN[t], NOTE, noted[n++]);
            }
            x.probe(world, IN_TURN[t], READ);
        }
        return noted;
    }

    /** An object with programs of all lengths and all orders, and nothing started. */
    static Counted programmed() {
        Counted probes = newObject();
        probes.order(ROOT, NOTE, 21);
        probes.order(LEAF, GUARD, 11);
        probes.order(LEAF, NOTE, 12);
        probes.order(LEAF, TRY, KID);
        probes.order(LEAF, USE, ROOT);
        probes.order(LEAF, NOTE, 13);
        probes.order(KID, GUARD, 51);
        probes.order(KID, NOTE, 52);
        probes.order(KID, THROW, 31);
        probes.order(KID, NOTE, 53);
        probes.order(FIRM, GUARD, 41);
        probes.order(LOOSE, BREAK, 77);
        probes.order(PLAIN, USE, LOOSE);
        probes.order(PLAIN, NOTE, 22);
        return probes;
    }

    /** The same one in the midst of its use: types NEW, DONE, written and FAILED in both worlds. */
    static Counted inUse() {
        Counted probes = programmed();
        probes.probe(0, ROOT, WRITE);
        probes.probe(0, KID, MAKE);
        probes.probe(1, MIDDLE, CALL);
        probes.probe(1, SOLO, WRITE);
        probes.probe(1, FIRM, CALL);
        probes.probe(1, PLAIN, READ);
        return probes;
    }

    /** All that can be seen of a world. Looking starts its types. */
    static List<Integer> sightOf(Counted probes, int world) {
        List<Integer> sight = new ArrayList<>();
        seeEvents(probes, world, sight);
        for (int type = 0; type < 8; type++) {
            int outcome = probes.probe(world, type, READ);
            sight.add(outcome);
            sight.add(outcome == ANSWERED ? probes.answer() : probes.wrong());
        }
        seeEvents(probes, world, sight);
        return sight;
    }

    private static void seeEvents(Counted probes, int world, List<Integer> sight) {
        sight.add(probes.events(world));
        for (int i = 0; i < 32; i++) {
            sight.add(probes.event(world, i));
        }
    }

    /** All that can be seen of an object: what it has kept, its worlds, one built anew, its programs. */
    static List<Integer> sightOf(Counted probes) {
        List<Integer> sight = new ArrayList<>();
        sight.add(probes.answer());
        sight.add(probes.wrong());
        sight.addAll(sightOf(probes, 0));
        sight.addAll(sightOf(probes, 1));
        probes.build(0);
        sight.addAll(sightOf(probes, 0));
        for (int type = 0; type < 8; type++) {
            sight.add(probes.noOrders(type));
        }
        return sight;
    }

    /** The call answers so, and the object is as it would be without it. */
    static void changesNothing(String name, int want, Calls call) {
        Counted probes = inUse();
        is(name, call.on(probes), want);
        same("what is seen behind " + name, sightOf(probes), sightOf(inUse()));
    }

    static void refused(String name, Calls call) {
        changesNothing(name, REFUSED, call);
        is(name + " on a new object", call.on(newObject()), REFUSED);
    }

    static boolean isFor(int type, int manner) {
        return type <= KID || manner != MAKE && manner != WRITE && manner != MAKE_BY_REFLECTION;
    }

    static int[] joined(int[] first, int... then) {
        int[] all = new int[first.length + then.length];
        System.arraycopy(first, 0, all, 0, first.length);
        System.arraycopy(then, 0, all, first.length, then.length);
        return all;
    }
}
