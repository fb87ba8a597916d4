/** Each promise of the document by itself: ordinary inputs, the edges it names, and wrong inputs. */
public final class PromisesTest {
    private static final int ROOT = 0;
    private static final int MIDDLE = 1;
    private static final int LEAF = 2;
    private static final int SOLO = 3;
    private static final int KID = 4;
    private static final int FIRM = 5;
    private static final int LOOSE = 6;
    private static final int PLAIN = 7;

    private static final int NOTE = 0;
    private static final int USE = 1;
    private static final int THROW = 2;
    private static final int BREAK = 3;
    private static final int TRY = 4;
    private static final int GUARD = 5;

    private static final int MAKE = 0;
    private static final int CALL = 1;
    private static final int READ = 2;
    private static final int WRITE = 3;
    private static final int MAKE_BY_REFLECTION = 12;

    private static final int[] OUTSIDE = {-1, 1 << 16, Integer.MIN_VALUE, Integer.MAX_VALUE};

    /** An order in which each type is started by its own use, as all those that it starts are done. */
    private static final int[] IN_TURN = {FIRM, ROOT, MIDDLE, LEAF, SOLO, KID, LOOSE, PLAIN};

    private static final Due due = new Due("PromisesTest");
    private static StartupProbes x;
    private static String part;

    public static void main(String[] args) {
        promise1NewObject();
        promise2Order();
        promise3NoOrders();
        promise4Build();
        promise5Starts();
        promise5Orders();
        promise5Manners();
        promise5Refusals();
        promise6Answer();
        promise7Wrong();
        promise8Events();
        promise9Event();
        due.end();
    }

    private static void promise1NewObject() {
        fresh("1 new object");
        is("answer", x.answer(), 0);
        is("wrong", x.wrong(), 0);
        for (int world = 0; world < 2; world++) {
            events(world);
            is("event", x.event(world, 0), -1);
        }
        for (int type = 0; type < 8; type++) {
            is("noOrders " + type, x.noOrders(type), 0);
        }
        for (int type = 0; type < 8; type++) {
            fresh("1 new object, type " + type);
            is("probe", x.probe(1, type, READ), 0);
            is("the type was NEW", x.event(1, 0), 100 + type);
            events(0);
        }
        StartupProbes other = new StartupProbes();
        other.order(ROOT, THROW, 5);
        other.probe(0, ROOT, READ);
        fresh("1 beside another object");
        probe(0, ROOT, READ, 1);
        events(0, 100);
        is("wrong of the other", other.wrong(), 5);
    }

    private static void promise2Order() {
        for (int type = 0; type < 8; type++) {
            fresh("2 order, type " + type);
            for (int n = 1; n <= 5; n++) {
                is("order " + n, x.order(type, NOTE, 40 + n), n);
            }
            is("a sixth", x.order(type, NOTE, 99), -2);
            is("a sixth GUARD", x.order(type, GUARD, 99), -2);
            is("a wrong sixth", x.order(type, 6, 99), -1);
            x.probe(0, type, READ);
            for (int i = 0; i < 5; i++) {
                is("event " + i, x.event(0, i), 45 - i);
            }
            is("event 5", x.event(0, 5), 100 + type);
            is("the other types have none", x.noOrders((type + 1) & 7), 0);
        }
        fresh("2 order, wrong inputs");
        for (int wrong : OUTSIDE) {
            is("type " + wrong, x.order(wrong, NOTE, 0), -1);
            is("order " + wrong, x.order(ROOT, wrong, 0), -1);
        }
        is("type 8", x.order(8, NOTE, 0), -1);
        is("order 6", x.order(ROOT, 6, 0), -1);
        is("none was taken", x.noOrders(ROOT), 0);
        for (int order = 0; order < 5; order++) {
            is("order " + order, x.order(PLAIN, order, Integer.MIN_VALUE), order + 1);
        }
        is("order 5", x.order(LOOSE, GUARD, Integer.MAX_VALUE), 1);
    }

    private static void promise3NoOrders() {
        fresh("3 noOrders");
        for (int type = 0; type < 8; type++) {
            x.order(type, NOTE, 1);
            x.order(type, NOTE, 2);
        }
        x.order(FIRM, NOTE, 3);
        is("noOrders", x.noOrders(FIRM), 3);
        is("again", x.noOrders(FIRM), 0);
        is("another", x.noOrders(LOOSE), 2);
        is("type 8", x.noOrders(8), -1);
        for (int wrong : OUTSIDE) {
            is("type " + wrong, x.noOrders(wrong), -1);
        }
        probe(0, FIRM, READ, 51);
        events(0, 105);
        is("order after it", x.order(FIRM, NOTE, 9), 1);
        probe(1, FIRM, READ, 52);
        events(1, 105, 9);
        probe(1, PLAIN, READ, 75);
        events(1, 105, 9, 107, 1, 2);
        fresh("3 noOrders, no GUARD is left");
        x.order(ROOT, GUARD, 8);
        x.order(ROOT, THROW, 8);
        x.noOrders(ROOT);
        x.order(ROOT, NOTE, 6);
        probe(0, ROOT, READ, 2);
        events(0, 100, 6);
    }

    private static void promise4Build() {
        fresh("4 build");
        x.order(MIDDLE, BREAK, 21);
        goesWrong(0, MIDDLE, READ, 2, 21);
        goesWrong(1, MIDDLE, READ, 2, 21);
        probe(0, SOLO, WRITE, 7);
        is("build", x.build(0), 0);
        events(0);
        is("event", x.event(0, 0), -1);
        events(1, 100, 101);
        is("answer stays", x.answer(), 7);
        goesWrong(1, MIDDLE, READ, 3, 0);
        goesWrong(0, MIDDLE, READ, 2, 21);
        is("build", x.build(1), 0);
        is("wrong stays", x.wrong(), 21);
        probe(0, SOLO, READ, 33);
        events(0, 100, 101, 103);
        is("world 2", x.build(2), -1);
        for (int wrong : OUTSIDE) {
            is("world " + wrong, x.build(wrong), -1);
        }
        events(0, 100, 101, 103);
        fresh("4 build, VALUE is 0 again");
        probe(0, ROOT, READ, 1);
        x.order(ROOT, USE, ROOT);
        x.build(0);
        probe(0, ROOT, READ, 2);
        events(0, 100, 0);
        for (int again = 0; again < 20; again++) {
            is("build again", x.build(0), 0);
            probe(0, ROOT, READ, 2);
            events(0, 100, 0);
        }
    }

    private static void promise5Starts() {
        starts(ROOT, 100);
        starts(MIDDLE, 100, 101);
        starts(LEAF, 100, 101, 105, 102);
        starts(SOLO, 103);
        starts(KID, 103, 105, 104);
        starts(FIRM, 105);
        starts(LOOSE, 106);
        starts(PLAIN, 107);
        onceStarted();
        wrongAbove();
        wrongInside();
        roundAndRound();
        allUnderWayAtOnce();
    }

    private static void starts(int type, int... events) {
        fresh("5 starts of " + type);
        probe(0, type, READ, 10 * type + events.length);
        events(0, events);
        probe(0, type, READ, 10 * type + events.length);
        events(0, events);
        events(1);
    }

    private static void onceStarted() {
        fresh("5 what is done is not started again");
        probe(0, FIRM, READ, 51);
        probe(0, MIDDLE, READ, 13);
        probe(0, LEAF, READ, 24);
        probe(0, KID, READ, 46);
        events(0, 105, 100, 101, 102, 103, 104);
        probe(1, KID, READ, 43);
        probe(1, LEAF, READ, 26);
        events(1, 103, 105, 104, 100, 101, 102);
    }

    private static void wrongAbove() {
        fresh("5 a superclass goes wrong");
        x.order(ROOT, THROW, 17);
        goesWrong(0, LEAF, MAKE, 1, 17);
        events(0, 100);
        goesWrong(0, LEAF, MAKE, 3, 0);
        goesWrong(0, MIDDLE, MAKE, 3, 0);
        goesWrong(0, ROOT, MAKE, 3, 0);
        events(0, 100);
        probe(0, FIRM, READ, 52);
        goesWrong(1, MIDDLE, MAKE, 1, 17);
        goesWrong(1, LEAF, MAKE, 3, 0);
        probe(1, FIRM, READ, 52);
        fresh("5 an interface goes wrong");
        x.order(FIRM, BREAK, 18);
        goesWrong(0, LEAF, MAKE, 2, 18);
        events(0, 100, 101, 105);
        goesWrong(0, KID, MAKE, 3, 0);
        events(0, 100, 101, 105, 103);
        probe(0, MIDDLE, CALL, 13);
        probe(0, SOLO, CALL, 35);
        probe(0, LOOSE, READ, 65);
        fresh("5 an interface that is not started does no harm");
        x.order(LOOSE, BREAK, 1);
        x.order(PLAIN, BREAK, 2);
        probe(0, LEAF, MAKE, 1);
        probe(0, KID, MAKE, 1);
        fresh("5 one that has failed stays so with another program");
        x.order(SOLO, THROW, 3);
        goesWrong(0, SOLO, READ, 1, 3);
        x.noOrders(SOLO);
        goesWrong(0, SOLO, READ, 3, 0);
        goesWrong(0, KID, READ, 3, 0);
        probe(1, KID, READ, 43);
    }

    private static void wrongInside() {
        fresh("5 WRAPPED is not wrapped again");
        x.order(PLAIN, USE, LOOSE);
        x.order(PLAIN, NOTE, 1);
        x.order(LOOSE, THROW, -5);
        goesWrong(0, PLAIN, READ, 1, -5);
        events(0, 107, 106);
        goesWrong(0, PLAIN, READ, 3, 0);
        fresh("5 BROKEN goes through");
        x.order(PLAIN, USE, LOOSE);
        x.order(LOOSE, BREAK, Integer.MIN_VALUE);
        goesWrong(0, PLAIN, READ, 2, Integer.MIN_VALUE);
        fresh("5 LOST goes through");
        x.order(LOOSE, THROW, 4);
        goesWrong(0, LOOSE, READ, 1, 4);
        x.order(PLAIN, USE, LOOSE);
        goesWrong(0, PLAIN, READ, 3, 0);
        events(0, 106, 107);
    }

    private static void roundAndRound() {
        fresh("5 a type that uses itself");
        x.order(ROOT, USE, ROOT);
        x.order(ROOT, TRY, ROOT);
        probe(0, ROOT, READ, 3);
        events(0, 100, 0, 0);
        fresh("5 a superclass that uses its subclass");
        x.order(ROOT, USE, MIDDLE);
        probe(0, ROOT, READ, 3);
        events(0, 100, 101, 12);
        probe(1, MIDDLE, READ, 13);
        events(1, 100, 0, 101);
        fresh("5 a subclass that fails under its superclass");
        x.order(SOLO, TRY, KID);
        x.order(KID, USE, SOLO);
        x.order(KID, THROW, 64 + 7);
        probe(0, SOLO, READ, 35);
        events(0, 103, 105, 104, 0, 1107);
        goesWrong(0, KID, READ, 3, 0);
    }

    private static void allUnderWayAtOnce() {
        fresh("5 all eight under way at once");
        x.order(PLAIN, USE, LOOSE);
        x.order(LOOSE, USE, LEAF);
        x.order(ROOT, USE, FIRM);
        x.order(FIRM, USE, KID);
        for (int type = 0; type < 5; type++) {
            x.order(SOLO, USE, 2 * type);
        }
        probe(0, PLAIN, READ, 87);
        events(0, 107, 106, 100, 105, 103, 0, 0, 0, 0, 0, 104, 51, 62, 101, 102, 35, 76);
    }

    private static void promise5Orders() {
        fresh("5 NOTE and USE");
        x.order(SOLO, NOTE, -1);
        x.order(SOLO, USE, 8 + PLAIN);
        x.order(SOLO, USE, -3);
        x.order(SOLO, NOTE, Integer.MIN_VALUE);
        probe(0, SOLO, READ, 37);
        events(0, 103, -1, 107, 73, 105, 55, Integer.MIN_VALUE);
        for (int number : new int[] {0, 1, 63, 64, 70, -1, Integer.MIN_VALUE, Integer.MAX_VALUE}) {
            tried(THROW, number, 1100 + Math.floorMod(number, 64));
            tried(BREAK, number, 1200 + Math.floorMod(number, 64));
        }
        fresh("5 TRY of what is LOST, and of what answers");
        x.order(FIRM, BREAK, 50);
        goesWrong(0, FIRM, READ, 2, 50);
        x.order(ROOT, TRY, FIRM);
        x.order(ROOT, TRY, -1);
        probe(0, ROOT, READ, 5);
        events(0, 105, 100, 1300, 107, 74);
        fresh("5 TRY, and then THROW all the same");
        x.order(FIRM, BREAK, 50);
        x.order(ROOT, TRY, FIRM);
        x.order(ROOT, THROW, 51);
        goesWrong(0, ROOT, READ, 1, 51);
        events(0, 100, 105, 1250);
        guards();
    }

    private static void tried(int order, int number, int event) {
        fresh("5 TRY with " + order + " " + number);
        x.order(ROOT, TRY, 16 + PLAIN);
        x.order(PLAIN, order, number);
        probe(0, ROOT, READ, 3);
        events(0, 100, 107, event);
        goesWrong(0, PLAIN, READ, 3, 0);
        goesWrong(1, PLAIN, READ, order == THROW ? 1 : 2, number);
    }

    private static void guards() {
        fresh("5 GUARD when nothing goes wrong");
        x.order(PLAIN, GUARD, 1);
        x.order(PLAIN, NOTE, 2);
        x.order(PLAIN, GUARD, 3);
        x.order(PLAIN, NOTE, 4);
        x.order(PLAIN, GUARD, 5);
        probe(0, PLAIN, READ, 76);
        events(0, 107, 2, 4, 5, 3, 1);
        fresh("5 GUARD, but not behind what goes wrong");
        x.order(PLAIN, GUARD, 1);
        x.order(PLAIN, GUARD, 2);
        x.order(PLAIN, USE, LOOSE);
        x.order(PLAIN, GUARD, 3);
        x.order(LOOSE, GUARD, 4);
        x.order(LOOSE, BREAK, 90);
        x.order(LOOSE, NOTE, 5);
        x.order(LOOSE, GUARD, 6);
        goesWrong(0, PLAIN, READ, 2, 90);
        events(0, 107, 106, 4, 2, 1);
        fresh("5 no GUARD where the superclass goes wrong");
        x.order(MIDDLE, GUARD, 1);
        x.order(ROOT, THROW, 2);
        goesWrong(0, MIDDLE, READ, 1, 2);
        events(0, 100);
    }

    private static void promise5Manners() {
        for (int type = 0; type < 8; type++) {
            boolean isClass = type <= KID;
            int value = valueOfFirstStart(type);
            manner(type, 0, isClass, true, 1);
            manner(type, 1, true, true, value + 1);
            manner(type, 2, true, true, value);
            manner(type, 3, isClass, true, 7);
            manner(type, 4, true, false, 500 + type);
            manner(type, 5, true, false, 3);
            manner(type, 6, true, false, 1);
            manner(type, 7, true, true, 1);
            manner(type, 8, true, true, value + 1);
            manner(type, 9, true, true, value + 1);
            manner(type, 11, true, false, 0);
            manner(type, 12, isClass, true, 1);
            manner(type, 13, true, true, value);
            rootAsLeaf(type);
        }
        written();
    }

    private static int valueOfFirstStart(int type) {
        StartupProbes probes = new StartupProbes();
        probes.probe(0, type, READ);
        return 10 * type + probes.events(0);
    }

    private static void manner(int type, int manner, boolean isFor, boolean starts, int answer) {
        fresh("5 type " + type + ", manner " + manner);
        if (!isFor) {
            is("probe", x.probe(0, type, manner), -1);
            events(0);
            return;
        }
        probe(0, type, manner, answer);
        is("started", x.events(0) > 0 ? 1 : 0, starts ? 1 : 0);
        if (starts) {
            is("event", x.event(0, 0), 100 + type);
        }
        x.order(type, THROW, 88);
        if (starts) {
            goesWrong(1, type, manner, 1, 88);
            goesWrong(1, type, manner, 3, 0);
        } else {
            probe(1, type, manner, answer);
            goesWrong(1, type, READ, 1, 88);
            probe(1, type, manner, answer);
        }
    }

    private static void rootAsLeaf(int type) {
        fresh("5 type " + type + ", manner 10");
        probe(0, type, 10, 2);
        events(0, 100);
        probe(0, ROOT, WRITE, 7);
        probe(0, type, 10, 8);
        x.order(ROOT, BREAK, 12);
        goesWrong(1, type, 10, 2, 12);
        goesWrong(1, type, 10, 3, 0);
    }

    private static void written() {
        for (int type = 0; type <= KID; type++) {
            fresh("5 written, type " + type);
            probe(0, type, WRITE, 7);
            int events = x.events(0);
            probe(0, type, READ, 7);
            probe(0, type, 13, 7);
            probe(0, type, CALL, 8);
            probe(0, type, 8, 8);
            probe(0, type, 9, 8);
            probe(0, type, MAKE, 1);
            is("events", x.events(0), events);
            probe(1, type, READ, 10 * type + events);
            x.order(PLAIN, USE, type);
            probe(0, PLAIN, READ, 72 + events);
            is("event", x.event(0, 0), 7);
        }
    }

    private static void promise5Refusals() {
        fresh("5 refusals");
        x.order(PLAIN, THROW, 77);
        probe(0, ROOT, CALL, 2);
        goesWrong(0, PLAIN, CALL, 1, 77);
        is("world 2", x.probe(2, ROOT, CALL), -1);
        is("type 8", x.probe(0, 8, CALL), -1);
        is("type 8 by manner 10", x.probe(0, 8, 10), -1);
        is("manner 14", x.probe(0, ROOT, 14), -1);
        for (int wrong : OUTSIDE) {
            is("world " + wrong, x.probe(wrong, ROOT, CALL), -1);
            is("type " + wrong, x.probe(0, wrong, CALL), -1);
            is("type " + wrong + " to MAKE", x.probe(0, wrong, MAKE), -1);
            is("manner " + wrong, x.probe(0, ROOT, wrong), -1);
        }
        for (int type = FIRM; type <= PLAIN; type++) {
            is("MAKE " + type, x.probe(0, type, MAKE), -1);
            is("WRITE " + type, x.probe(0, type, WRITE), -1);
            is("MAKE by reflection " + type, x.probe(0, type, MAKE_BY_REFLECTION), -1);
        }
        is("answer stays", x.answer(), 2);
        is("wrong stays", x.wrong(), 77);
        events(0, 100, 107);
    }

    private static void promise6Answer() {
        fresh("6 answer");
        x.order(PLAIN, THROW, 1);
        is("refused", x.probe(0, PLAIN, MAKE), -1);
        is("answer before the first", x.answer(), 0);
        goesWrong(0, PLAIN, READ, 1, 1);
        is("answer before the first", x.answer(), 0);
        probe(0, FIRM, 4, 505);
        goesWrong(0, PLAIN, READ, 3, 0);
        is("answer of the last ANSWERED", x.answer(), 505);
        x.build(0);
        x.noOrders(PLAIN);
        x.order(PLAIN, NOTE, 3);
        is("answer of the last ANSWERED", x.answer(), 505);
        probe(1, PLAIN, READ, 72);
        is("asked again", x.answer(), 72);
        probe(0, PLAIN, 11, 0);
    }

    private static void promise7Wrong() {
        for (int number : new int[] {1, 64, -1, Integer.MIN_VALUE, Integer.MAX_VALUE}) {
            fresh("7 wrong, " + number);
            x.order(ROOT, THROW, number);
            x.order(SOLO, BREAK, number);
            goesWrong(0, ROOT, READ, 1, number);
            goesWrong(0, SOLO, READ, 2, number);
            is("refused", x.probe(0, 8, READ), -1);
            is("refused", x.probe(0, FIRM, MAKE), -1);
            is("stays behind what is REFUSED", x.wrong(), number);
            x.build(1);
            is("stays behind build", x.wrong(), number);
            probe(0, FIRM, READ, 53);
            goesWrong(1, SOLO, READ, 2, number);
            goesWrong(1, SOLO, READ, 3, 0);
            goesWrong(1, ROOT, READ, 1, number);
            probe(1, ROOT, 4, 500);
        }
        fresh("7 wrong, of the last of several");
        x.order(ROOT, TRY, SOLO);
        x.order(ROOT, USE, FIRM);
        x.order(SOLO, BREAK, 6);
        x.order(FIRM, THROW, 7);
        goesWrong(0, ROOT, READ, 1, 7);
        x.noOrders(FIRM);
        probe(1, ROOT, READ, 5);
        fresh("7 wrong, LOST behind a TRY");
        x.order(SOLO, BREAK, 6);
        x.order(ROOT, TRY, SOLO);
        x.order(ROOT, USE, SOLO);
        goesWrong(0, ROOT, READ, 3, 0);
        events(0, 100, 103, 1206);
    }

    private static void promise8Events() {
        fresh("8 events");
        is("world 2", x.events(2), -1);
        for (int wrong : OUTSIDE) {
            is("world " + wrong, x.events(wrong), -1);
        }
        fillWithEvents();
        is("all that a world can note", x.events(0), 48);
        is("of the other world", x.events(1), 0);
        probe(0, FIRM, READ, 56);
        probe(0, PLAIN, READ, 118);
        is("no more come", x.events(0), 48);
        probe(1, SOLO, READ, 36);
        is("of the other world", x.events(1), 6);
        x.build(0);
        is("anew", x.events(0), 0);
        is("of the other world", x.events(1), 6);
    }

    private static void promise9Event() {
        fresh("9 event");
        is("world 2", x.event(2, 0), -1);
        is("none yet", x.event(0, 0), -1);
        fillWithEvents();
        for (int wrong : OUTSIDE) {
            is("world " + wrong, x.event(wrong, 0), -1);
            is("event " + wrong, x.event(0, wrong), -1);
        }
        for (int i = 0; i < 32; i++) {
            int type = IN_TURN[7 - i / 6];
            int order = 5 - i % 6;
            is("event " + i, x.event(0, i), order == 0 ? 100 + type : 1000 * type + order);
        }
        is("event 32, which is there, but too long ago", x.event(0, 32), -1);
        is("event 47", x.event(0, 47), -1);
        is("event 48", x.event(0, 48), -1);
        is("of the other world", x.event(1, 0), -1);
        x.noOrders(PLAIN);
        x.order(PLAIN, NOTE, -1);
        x.build(0);
        is("none after build", x.event(0, 0), -1);
        probe(0, PLAIN, READ, 72);
        events(0, 107, -1);
        is("behind the first", x.event(0, 2), -1);
    }

    /** Starts all eight types in turn, each with five NOTEs of its own: 48 events. */
    private static void fillWithEvents() {
        for (int type : IN_TURN) {
            for (int n = 1; n <= 5; n++) {
                x.order(type, NOTE, 1000 * type + n);
            }
            x.probe(0, type, READ);
        }
    }

    private static void fresh(String name) {
        part = name;
        x = new StartupProbes();
    }

    private static void is(String call, long got, long want) {
        due.is(part + ": " + call, got, want);
    }

    private static void probe(int world, int type, int manner, int answer) {
        String call = "probe(" + world + ", " + type + ", " + manner + ")";
        is(call, x.probe(world, type, manner), 0);
        is("answer() after " + call, x.answer(), answer);
        is("wrong() after " + call, x.wrong(), 0);
    }

    private static void goesWrong(int world, int type, int manner, int outcome, int number) {
        String call = "probe(" + world + ", " + type + ", " + manner + ")";
        int answer = x.answer();
        is(call, x.probe(world, type, manner), outcome);
        is("wrong() after " + call, x.wrong(), number);
        is("answer() after " + call, x.answer(), answer);
    }

    /** All events of a world, the first one first; no more than can be asked for. */
    private static void events(int world, int... events) {
        is("events(" + world + ")", x.events(world), events.length);
        for (int i = 0; i < events.length; i++) {
            is("event(" + world + ", " + i + ")", x.event(world, i), events[events.length - 1 - i]);
        }
    }
}
