import java.util.ArrayList;
import java.util.List;

/**
 * The sentences of "What it is", and those of "Terms" on TYPES and WORLDS: which types there are,
 * what is above them, what a new world holds, and how long an object is used.
 */
public final class WorldsTest extends Bench {
    /** The types whose going wrong makes each type go wrong, in the order in which they are started. */
    private static final int[][] ABOVE = {
        {}, {ROOT}, {ROOT, MIDDLE, FIRM}, {}, {SOLO, FIRM}, {}, {}, {}
    };

    public static void main(String[] args) {
        hold("WorldsTest", WorldsTest::sentences);
    }

    private static void sentences() {
        startedByUsesThatStart();
        whatWentWrongIsKept();
        builtAnewAsOftenAsAsked();
        the512thCall();
        callsBehindThe512th();
        classesAndInterfaces();
        typesAbove();
        orderOfTypesAbove();
        worldsHaveAllTypesEach();
        programs();
        statesAndValuesAtFirst();
    }

    // "eight types with programmable initializers are started by every use that starts a type, and not by
    // others"

    private static void startedByUsesThatStart() {
        for (int type = 0; type < 8; type++) {
            fresh("started by every use that starts a type, type " + type);
            x.order(type, NOTE, 9);
            for (int manner : STARTING) {
                usesThatDoNotStart(type);
                if (isFor(type, manner)) {
                    is("manner " + manner, x.probe(0, type, manner), ANSWERED);
                    events(0, joined(FIRST_START[type], 9));
                    x.build(0);
                }
            }
        }
    }

    private static void usesThatDoNotStart(int type) {
        for (int manner : NOT_STARTING) {
            is("manner " + manner, x.probe(0, type, manner), ANSWERED);
        }
        for (int manner = 0; manner <= 13; manner++) {
            if (!isFor(type, manner)) {
                is("manner " + manner, x.probe(0, type, manner), REFUSED);
            }
        }
        is("events by uses that do not start", x.events(0), 0);
    }

    // "what went wrong at the start is kept"

    private static void whatWentWrongIsKept() {
        for (int type = 0; type < 8; type++) {
            fresh("what went wrong at the start is kept, type " + type);
            x.order(type, BREAK, 9);
            goesWrong(0, type, READ, BROKEN, 9);
            x.noOrders(type);
            while (x.callsLeft() > 20) {
                x.build(1);
                is("the other world", x.probe(1, type, READ), ANSWERED);
                x.order(type, NOTE, 8);
                goesWrong(0, type, READ, LOST, 0);
            }
            events(0, FIRST_START[type]);
        }
    }

    // "a world is built anew, with nothing started, as often as asked"

    private static void builtAnewAsOftenAsAsked() {
        for (int world = 0; world < 2; world++) {
            List<Integer> atFirst = runOf(programmed(), world);
            fresh("built anew as often as asked, world " + world);
            x = programmed();
            for (int time = 1; x.callsLeft() > 120; time++) {
                same("what its types do, time " + time, runOf(x, world), atFirst);
                for (int builds = 0; builds < 1 + time % 3; builds++) {
                    is("build", x.build(world), 0);
                    is("events", x.events(world), 0);
                }
            }
            same("the other world", sightOf(x, 1 - world), sightOf(programmed(), 1 - world));
        }
    }

    /** What each type of a world does when it is used in turn. */
    private static List<Integer> runOf(Counted probes, int world) {
        List<Integer> run = new ArrayList<>();
        for (int type = 0; type < 8; type++) {
            run.add(probes.probe(world, type, type <= KID ? WRITE : CALL));
            run.add(probes.events(world));
        }
        run.add(probes.event(world, 0));
        return run;
    }

    // "An object is used for at most 512 calls after it has been made"

    private static void the512thCall() {
        the512thCall("order", 5, probes -> probes.order(ROOT, NOTE, 5));
        the512thCall("order of a full program", FULL, probes -> probes.order(FIRM, NOTE, 6));
        the512thCall("noOrders", 4, probes -> probes.noOrders(ROOT));
        the512thCall("build", 0, probes -> probes.build(0));
        the512thCall("probe of one DONE", ANSWERED, probes -> probes.probe(0, LEAF, CALL));
        the512thCall("probe of one NEW", ANSWERED, probes -> probes.probe(1, LEAF, CALL));
        the512thCall("probe that is WRAPPED", WRAPPED, probes -> probes.probe(1, PLAIN, CALL));
        the512thCall("probe that is LOST", LOST, probes -> probes.probe(0, PLAIN, CALL));
        the512thCall("probe that is REFUSED", REFUSED, probes -> probes.probe(0, PLAIN, MAKE));
        the512thCall("answer", 101, Counted::answer);
        the512thCall("wrong", 512, Counted::wrong);
        the512thCall("events", 46, probes -> probes.events(0));
        the512thCall("event 0", 74, probes -> probes.event(0, 0));
        the512thCall("event 31", 13, probes -> probes.event(0, 31));
        the512thCall("event 32", REFUSED, probes -> probes.event(0, 32));
    }

    private static void the512thCall(String name, int want, Calls last) {
        fresh("at most 512 calls");
        make511Calls();
        is("calls before the last", x.callsLeft(), 1);
        is(name + " as the 512th call", last.on(x), want);
    }

    /** Nearly as many orders as can be given, and then worlds that note as many events as they can. */
    private static void make511Calls() {
        for (int type = 0; type < 8; type++) {
            for (int n = 1; n <= 4; n++) {
                is("order", x.order(type, NOTE, 10 * type + n), n);
            }
        }
        x.order(PLAIN, THROW, 512);
        for (int type = MIDDLE; type < PLAIN; type++) {
            is("order", x.order(type, NOTE, 10 * type + 5), 5);
        }
        is("events", x.events(1), 0);
        is("event", x.event(1, 0), REFUSED);
        is("a sixth order", x.order(PLAIN, NOTE, 6), FULL);
        is("an interface cannot be made", x.probe(0, PLAIN, MAKE), REFUSED);
        while (x.callsLeft() > 1) {
            is("build", x.build(0), 0);
            for (int type : IN_TURN) {
                is("probe of " + type, x.probe(0, type, READ), type == PLAIN ? WRAPPED : ANSWERED);
            }
        }
    }

    // "what later calls answer is free", but nothing is thrown by them, and other objects stay as they are

    private static void callsBehindThe512th() {
        fresh("calls behind the 512th");
        StartupProbes late = new StartupProbes();
        int[] arguments = {MIN, -1, 0, 1, 2, 3, 4, 5, 6, 7, 8, 13, 14, 31, 32, MAX};
        for (int a : arguments) {
            for (int b : arguments) {
                for (int c : arguments) {
                    late.order(a, b, c);
                    late.probe(a, b, c);
                }
                late.event(a, b);
                late.events(b);
                late.build(b);
                late.answer();
                late.wrong();
            }
            late.noOrders(a);
        }
        same("a new object beside it", sightOf(x), sightOf(newObject()));
    }

    // "TYPES: 0 ROOT, a class. 1 MIDDLE, a class ... 2 LEAF, a class ... 3 SOLO, a class ... 4 KID, a class ...
    // 5 FIRM, an interface ... 6 LOOSE, an interface ... 7 PLAIN, an interface"

    private static void classesAndInterfaces() {
        boolean[] isClass = {true, true, true, true, true, false, false, false};
        for (int type = 0; type < 8; type++) {
            for (int manner : new int[] {MAKE, WRITE, MAKE_BY_REFLECTION}) {
                fresh((isClass[type] ? "a class" : "an interface") + ", type " + type);
                is("manner " + manner, x.probe(0, type, manner), isClass[type] ? ANSWERED : REFUSED);
            }
        }
    }

    // "1 MIDDLE ... extends ROOT. 2 LEAF ... extends MIDDLE and has the interfaces 5 and 6 ... 3 SOLO ... has the
    // interface 7. 4 KID ... extends SOLO, and has the interface 5. 5 FIRM, an interface with a default method.
    // 6 LOOSE, an interface without one, extends FIRM. 7 PLAIN, an interface without one."

    private static void typesAbove() {
        for (int type = 0; type < 8; type++) {
            for (int other = 0; other < 8; other++) {
                fresh("the type " + type + " where " + other + " goes wrong");
                x.order(other, BREAK, 40 + other);
                if (other == type || isAbove(other, type)) {
                    goesWrong(0, type, READ, BROKEN, 40 + other);
                    goesWrong(0, other, READ, LOST, 0);
                } else {
                    probe(0, type, READ, 10 * type + FIRST_START[type].length);
                    events(0, FIRST_START[type]);
                    goesWrong(0, other, READ, BROKEN, 40 + other);
                }
            }
        }
    }

    private static boolean isAbove(int other, int type) {
        for (int above : ABOVE[type]) {
            if (above == other) {
                return true;
            }
        }
        return false;
    }

    // "its superclass is started, if it has one; then, for each of its own interfaces in order"

    private static void orderOfTypesAbove() {
        for (int type = 0; type < 8; type++) {
            int[] above = ABOVE[type];
            for (int first = 0; first < above.length; first++) {
                fresh("the type " + type + " where " + above[first] + " goes wrong before those behind it");
                x.order(type, BREAK, 1);
                for (int n = first; n < above.length; n++) {
                    x.order(above[n], BREAK, 40 + n);
                }
                goesWrong(0, type, READ, BROKEN, 40 + first);
                is("events", x.events(0), first + 1);
                is("the last event", x.event(0, 0), 100 + above[first]);
            }
        }
    }

    // "WORLDS 0 and 1 have each all eight types, with a STATE ..., a VALUE ... and a program."

    private static void worldsHaveAllTypesEach() {
        fresh("worlds have each all eight types, each with a VALUE");
        for (int n = 0; n < 8; n++) {
            probe(0, IN_TURN[n], READ, 10 * IN_TURN[n] + n + 1);
        }
        is("events of the other world", x.events(1), 0);
        for (int type : new int[] {PLAIN, LOOSE, KID, LEAF}) {
            x.probe(1, type, READ);
        }
        events(1, 107, 106, 103, 105, 104, 100, 101, 102);
        events(0, 105, 100, 101, 102, 103, 104, 106, 107);
        int[] values = {6, 17, 28, 33, 45, 54, 62, 71};
        for (int type = 0; type < 8; type++) {
            probe(1, type, READ, values[type]);
        }
        for (int n = 0; n < 8; n++) {
            probe(0, IN_TURN[n], READ, 10 * IN_TURN[n] + n + 1);
        }
        for (int type = 0; type < 8; type++) {
            stateInEachWorld(type);
        }
    }

    private static void stateInEachWorld(int type) {
        fresh("worlds have each all eight types, each with a STATE, type " + type);
        int value = 10 * type + FIRST_START[type].length;
        probe(0, type, READ, value);
        x.order(type, THROW, 5);
        goesWrong(1, type, READ, WRAPPED, 5);
        probe(0, type, READ, value);
        goesWrong(1, type, READ, LOST, 0);
        x.noOrders(type);
        x.build(1);
        probe(1, type, CALL, value + 1);
        x.order(type, THROW, 6);
        x.build(0);
        goesWrong(0, type, READ, WRAPPED, 6);
        probe(1, type, READ, value);
    }

    // "A program is a row of at most 5 ORDERS (order, number), empty at first; it belongs to a type in both
    // worlds."

    private static void programs() {
        for (int type = 0; type < 8; type++) {
            programIsEmptyAtFirst(type);
            programOfFive(type);
            programInBothWorlds(type);
            for (int place = 0; place < 5; place++) {
                programKeepsItsPlaces(type, place);
            }
        }
    }

    private static void programIsEmptyAtFirst(int type) {
        fresh("a program is empty at first, type " + type);
        is("noOrders", x.noOrders(type), 0);
        x.probe(0, type, READ);
        events(0, FIRST_START[type]);
    }

    private static void programOfFive(int type) {
        fresh("a program is a row of at most 5 orders, type " + type);
        for (int n = 1; n <= 5; n++) {
            is("order " + n, x.order(type, NOTE, 40 + n), n);
        }
        is("a sixth", x.order(type, NOTE, 46), FULL);
        is("a sixth GUARD", x.order(type, GUARD, 47), FULL);
        x.probe(0, type, READ);
        events(0, joined(FIRST_START[type], 41, 42, 43, 44, 45));
    }

    private static void programInBothWorlds(int type) {
        fresh("a program belongs to a type in both worlds, type " + type);
        x.order(type, NOTE, 8);
        for (int world = 0; world < 2; world++) {
            x.probe(world, type, READ);
            events(world, joined(FIRST_START[type], 8));
        }
        is("noOrders", x.noOrders(type), 1);
        for (int world = 0; world < 2; world++) {
            x.build(world);
            x.probe(world, type, READ);
            events(world, FIRST_START[type]);
        }
    }

    private static void programKeepsItsPlaces(int type, int place) {
        fresh("an order at place " + place + ", type " + type);
        int[] noted = new int[place];
        for (int n = 0; n < 5; n++) {
            x.order(type, n == place ? BREAK : NOTE, 60 + n);
            if (n < place) {
                noted[n] = 60 + n;
            }
        }
        goesWrong(0, type, READ, BROKEN, 60 + place);
        events(0, joined(FIRST_START[type], noted));
    }

    // "a STATE (NEW at first ...), a VALUE (0 at first)"

    private static void statesAndValuesAtFirst() {
        for (int world = 0; world < 2; world++) {
            for (int type = 0; type < 8; type++) {
                fresh("NEW at first, type " + type + " of world " + world);
                probe(world, type, READ, 10 * type + FIRST_START[type].length);
                events(world, FIRST_START[type]);
                events(1 - world);
                fresh("VALUE is 0 at first, type " + type + " of world " + world);
                x.order(type, USE, type);
                x.probe(world, type, READ);
                events(world, joined(FIRST_START[type], 0));
            }
        }
    }
}
