/**
 * The sentences of the promises, one by one: ordinary inputs, the last number that is in and the
 * first that is out on both sides, and what a REFUSED call leaves as it was.
 */
public final class PromisesTest extends Bench {
    /** What each type (a row) answers to each manner (a column) as the first call of a new object. */
    private static final int[][] FIRST_ANSWERS = {
        {1, 2, 1, 7, 500, 3, 1, 1, 2, 2, 2, 0, 1, 1},
        {1, 13, 12, 7, 501, 3, 1, 1, 13, 13, 2, 0, 1, 12},
        {1, 25, 24, 7, 502, 3, 1, 1, 25, 25, 2, 0, 1, 24},
        {1, 32, 31, 7, 503, 3, 1, 1, 32, 32, 2, 0, 1, 31},
        {1, 44, 43, 7, 504, 3, 1, 1, 44, 44, 2, 0, 1, 43},
        {REFUSED, 52, 51, REFUSED, 505, 3, 1, 1, 52, 52, 2, 0, REFUSED, 51},
        {REFUSED, 62, 61, REFUSED, 506, 3, 1, 1, 62, 62, 2, 0, REFUSED, 61},
        {REFUSED, 72, 71, REFUSED, 507, 3, 1, 1, 72, 72, 2, 0, REFUSED, 71},
    };

    public static void main(String[] args) {
        hold("PromisesTest", PromisesTest::sentences);
    }

    private static void sentences() {
        newObjectPrograms();
        newObjectWorlds();
        newObjectProbes();
        newObjectBesideAnother();
        orderTypes();
        orderOrders();
        orderAnyNumber();
        orderWithFive();
        orderIsForLaterStarts();
        noOrdersOfEachLength();
        noOrdersLeavesTheRest();
        noOrdersRefused();
        buildOfNothingStarted();
        buildOfDoneAndFailed();
        buildForgetsEvents();
        buildAsOftenAsAsked();
        buildRefused();
        probeOutcomes();
        probeMannersInRange();
        probeNumbersOutOfRange();
        probeMannerNotForTheType();
        answerBeforeTheFirst();
        answerBehindWrongAndRefused();
        answerOfZero();
        wrongBeforeTheFirst();
        wrongOfThrowAndBreak();
        wrongOfLostAndAnswered();
        wrongBehindRefused();
        eventsCounted();
        eventsRefused();
        eventOfEachCount();
        eventMayBeRefusedToo();
        eventRefused();
    }

    // Promise 1: "makes an object in the state that the terms give"

    private static void newObjectPrograms() {
        for (int type = 0; type < 8; type++) {
            for (int order = NOTE; order <= GUARD; order++) {
                fresh("1 new object: order");
                is("order(" + type + ", " + order + ", 1)", x.order(type, order, 1), 1);
            }
            fresh("1 new object: noOrders");
            is("noOrders(" + type + ")", x.noOrders(type), 0);
        }
    }

    private static void newObjectWorlds() {
        fresh("1 new object: answer");
        is("answer()", x.answer(), 0);
        fresh("1 new object: wrong");
        is("wrong()", x.wrong(), 0);
        for (int world = 0; world < 2; world++) {
            fresh("1 new object: build");
            is("build(" + world + ")", x.build(world), 0);
            fresh("1 new object: events");
            is("events(" + world + ")", x.events(world), 0);
            for (int i = 0; i < 32; i++) {
                fresh("1 new object: event");
                is("event(" + world + ", " + i + ")", x.event(world, i), REFUSED);
            }
        }
    }

    private static void newObjectProbes() {
        for (int world = 0; world < 2; world++) {
            for (int type = 0; type < 8; type++) {
                for (int manner = 0; manner <= 13; manner++) {
                    fresh("1 new object: probe");
                    firstProbe(world, type, manner, FIRST_ANSWERS[type][manner]);
                }
            }
        }
    }

    private static void firstProbe(int world, int type, int manner, int answer) {
        if (answer == REFUSED) {
            is("probe(" + world + ", " + type + ", " + manner + ")", x.probe(world, type, manner), REFUSED);
            is("answer()", x.answer(), 0);
            events(world);
        } else {
            probe(world, type, manner, answer);
            events(world, eventsOfFirst(type, manner));
        }
        events(1 - world);
    }

    private static int[] eventsOfFirst(int type, int manner) {
        for (int notStarting : NOT_STARTING) {
            if (manner == notStarting) {
                return new int[0];
            }
        }
        return FIRST_START[manner == AS_LEAF ? ROOT : type];
    }

    private static void newObjectBesideAnother() {
        Counted other = inUse();
        fresh("1 new object, beside another");
        same("what is seen of a new object", sightOf(x), sightOf(newObject()));
        same("what is seen of the other", sightOf(other), sightOf(inUse()));
    }

    // Promise 2: "One more ORDER of a type's program, order 0 .. 5, any number: how many it has.
    // REFUSED for numbers out of range; -2 with 5."

    private static void orderTypes() {
        fresh("2 order: types 0 .. 7");
        for (int n = 1; n <= 5; n++) {
            for (int type = 0; type < 8; type++) {
                is("order " + n + " of the type " + type, x.order(type, NOTE, 0), n);
            }
        }
        for (int type : NO_TYPES) {
            fresh("2 order: REFUSED for numbers out of range, type");
            for (int order = NOTE; order <= GUARD; order++) {
                int given = order;
                refused("order(" + type + ", " + order + ", 0)", probes -> probes.order(type, given, 0));
            }
        }
    }

    private static void orderOrders() {
        for (int order = NOTE; order <= GUARD; order++) {
            fresh("2 order: order 0 .. 5");
            for (int n = 1; n <= 5; n++) {
                is("order(4, " + order + ", 3)", x.order(KID, order, 3), n);
            }
        }
        for (int order : NO_ORDERS) {
            fresh("2 order: REFUSED for numbers out of range, order");
            for (int type = 0; type < 8; type++) {
                int given = type;
                refused("order(" + type + ", " + order + ", 0)", probes -> probes.order(given, order, 0));
            }
            refused("order(8, " + order + ", 0)", probes -> probes.order(8, order, 0));
        }
    }

    private static void orderAnyNumber() {
        for (int number : ANY_NUMBERS) {
            for (int order = NOTE; order <= GUARD; order++) {
                fresh("2 order: any number");
                is("order(7, " + order + ", " + number + ")", x.order(PLAIN, order, number), 1);
            }
            fresh("2 order: any number is kept");
            x.order(PLAIN, GUARD, number);
            x.order(PLAIN, NOTE, number);
            x.order(PLAIN, THROW, number);
            goesWrong(0, PLAIN, READ, WRAPPED, number);
            events(0, 107, number, number);
        }
    }

    private static void orderWithFive() {
        for (int type = 0; type < 8; type++) {
            fresh("2 order: -2 with 5, type " + type);
            for (int n = 1; n <= 5; n++) {
                is("order " + n, x.order(type, NOTE, n), n);
            }
            for (int order = NOTE; order <= GUARD; order++) {
                is("a sixth of order " + order, x.order(type, order, 6), FULL);
            }
            is("a sixth that is out of range", x.order(type, 6, 6), REFUSED);
            is("a sixth that is out of range", x.order(type, -1, 6), REFUSED);
            is("one of another type", x.order((type + 1) & 7, NOTE, 6), 1);
            is("noOrders", x.noOrders(type), 5);
            is("the first again", x.order(type, NOTE, 6), 1);
        }
        fresh("2 order: -2 changes nothing");
        for (int order = NOTE; order <= GUARD; order++) {
            int given = order;
            changesNothing("order(2, " + order + ", 9) with 5", FULL, probes -> probes.order(LEAF, given, 9));
        }
    }

    private static void orderIsForLaterStarts() {
        fresh("2 order: for starts to come");
        probe(0, ROOT, READ, 1);
        is("order", x.order(ROOT, NOTE, 5), 1);
        probe(0, ROOT, READ, 1);
        events(0, 100);
        probe(1, ROOT, READ, 2);
        events(1, 100, 5);
        is("order", x.order(ROOT, NOTE, 6), 2);
        x.build(0);
        probe(0, ROOT, READ, 3);
        events(0, 100, 5, 6);
    }

    // Promise 3: "The type's program is empty: how many ORDERS it had. REFUSED for others."

    private static void noOrdersOfEachLength() {
        for (int type = 0; type < 8; type++) {
            for (int length = 0; length <= 5; length++) {
                fresh("3 noOrders: how many it had, type " + type);
                for (int n = 0; n < length; n++) {
                    x.order(type, n == 0 ? GUARD : THROW, n);
                }
                is("noOrders with " + length, x.noOrders(type), length);
                is("noOrders again", x.noOrders(type), 0);
                x.probe(0, type, READ);
                events(0, FIRST_START[type]);
                is("order after it", x.order(type, NOTE, 9), 1);
                is("noOrders after that", x.noOrders(type), 1);
            }
        }
    }

    private static void noOrdersLeavesTheRest() {
        fresh("3 noOrders: of an empty program");
        changesNothing("noOrders(1)", 0, probes -> probes.noOrders(MIDDLE));
        changesNothing("noOrders(3)", 0, probes -> probes.noOrders(SOLO));
        fresh("3 noOrders: the programs of others stay");
        for (int type = 0; type < 8; type++) {
            x.order(type, NOTE, 1);
            x.order(type, NOTE, 2);
        }
        is("noOrders", x.noOrders(FIRM), 2);
        is("order after it", x.order(FIRM, NOTE, 9), 1);
        probe(0, KID, READ, 48);
        events(0, 103, 1, 2, 105, 9, 104, 1, 2);
        for (int type = 0; type < 8; type++) {
            is("noOrders(" + type + ")", x.noOrders(type), type == FIRM ? 1 : 2);
        }
        fresh("3 noOrders: what was started stays");
        x.order(FIRM, GUARD, 3);
        x.order(LOOSE, BREAK, 4);
        probe(0, FIRM, READ, 52);
        goesWrong(0, LOOSE, READ, BROKEN, 4);
        is("noOrders", x.noOrders(FIRM), 1);
        is("noOrders", x.noOrders(LOOSE), 1);
        is("wrong stays", x.wrong(), 4);
        probe(0, FIRM, READ, 52);
        goesWrong(0, LOOSE, READ, LOST, 0);
        events(0, 105, 3, 106);
    }

    private static void noOrdersRefused() {
        fresh("3 noOrders: REFUSED for others");
        for (int type : NO_TYPES) {
            refused("noOrders(" + type + ")", probes -> probes.noOrders(type));
        }
    }

    // Promise 4: "The world is built anew: all its types NEW, with VALUE 0, no EVENTS: 0. REFUSED for others."

    private static void buildOfNothingStarted() {
        for (int world = 0; world < 2; world++) {
            fresh("4 build: a world in which nothing was started");
            Counted probes = programmed();
            is("build(" + world + ")", probes.build(world), 0);
            is("build(" + world + ")", probes.build(world), 0);
            same("what is seen then", sightOf(probes), sightOf(programmed()));
        }
    }

    private static void buildOfDoneAndFailed() {
        for (int world = 0; world < 2; world++) {
            fresh("4 build: types were DONE and FAILED in world " + world);
            Counted built = inUse();
            is("build", built.build(world), 0);
            is("answer stays", built.answer(), inUse().answer());
            is("wrong stays", built.wrong(), inUse().wrong());
            same("the world", sightOf(built, world), sightOf(programmed(), world));
            same("the other world", sightOf(built, 1 - world), sightOf(inUse(), 1 - world));
        }
        for (int type = 0; type < 8; type++) {
            fresh("4 build: NEW, with VALUE 0, type " + type);
            x.order(type, USE, type);
            int value = 10 * type + FIRST_START[type].length + 1;
            probe(0, type, READ, value);
            probe(1, type, CALL, value + 1);
            is("build", x.build(0), 0);
            probe(0, type, READ, value);
            is("the VALUE was 0 again", x.event(0, 0), 0);
            x.order(type, THROW, 5);
            x.build(0);
            goesWrong(0, type, READ, WRAPPED, 5);
            goesWrong(0, type, READ, LOST, 0);
            x.build(0);
            goesWrong(0, type, READ, WRAPPED, 5);
            x.noOrders(type);
            x.build(0);
            probe(0, type, READ, value - 1);
            probe(1, type, READ, value);
        }
    }

    private static void buildForgetsEvents() {
        for (int world = 0; world < 2; world++) {
            fresh("4 build: no EVENTS, world " + world);
            noteEvents(world, MOST_EVENTS);
            is("build", x.build(world), 0);
            is("events", x.events(world), 0);
            for (int i = 0; i < 32; i++) {
                is("event " + i, x.event(world, i), REFUSED);
            }
            x.noOrders(LOOSE);
            probe(world, LOOSE, READ, 61);
            is("events", x.events(world), 1);
            is("event 0", x.event(world, 0), 106);
            for (int i = 1; i < 32; i++) {
                is("event " + i, x.event(world, i), REFUSED);
            }
        }
    }

    private static void buildAsOftenAsAsked() {
        fresh("4 build: as often as asked");
        x.order(ROOT, THROW, 7);
        while (x.callsLeft() > 10) {
            is("build(0)", x.build(0), 0);
            is("build(1)", x.build(1), 0);
            goesWrong(0, MIDDLE, READ, WRAPPED, 7);
            events(0, 100);
        }
    }

    private static void buildRefused() {
        fresh("4 build: REFUSED for others");
        for (int world : NO_WORLDS) {
            refused("build(" + world + ")", probes -> probes.build(world));
        }
    }

    // Promise 5: "Uses a type in a world by a MANNER 0 .. 13: ANSWERED, or what goes wrong: WRAPPED, BROKEN,
    // LOST. REFUSED for numbers out of range, and a manner that is not for the type."

    private static void probeOutcomes() {
        for (int world = 0; world < 2; world++) {
            fresh("5 probe: how it goes");
            x.order(MIDDLE, THROW, 1);
            x.order(SOLO, BREAK, 1);
            is("ANSWERED", x.probe(world, ROOT, MAKE), StartupProbes.ANSWERED);
            is("WRAPPED", x.probe(world, LEAF, MAKE), StartupProbes.WRAPPED);
            is("BROKEN", x.probe(world, KID, MAKE), StartupProbes.BROKEN);
            is("LOST", x.probe(world, LEAF, MAKE), StartupProbes.LOST);
            is("LOST", x.probe(world, SOLO, MAKE), StartupProbes.LOST);
            is("REFUSED", x.probe(world, FIRM, MAKE), StartupProbes.REFUSED);
            events(world, 100, 101, 103);
            events(1 - world);
        }
    }

    private static void probeMannersInRange() {
        for (int type = 0; type < 8; type++) {
            fresh("5 probe: a MANNER 0 .. 13, type " + type);
            for (int manner = 0; manner <= 13; manner++) {
                int want = FIRST_ANSWERS[type][manner] == REFUSED ? REFUSED : ANSWERED;
                is("manner " + manner, x.probe(0, type, manner), want);
                is("manner " + manner + " in world 1", x.probe(1, type, manner), want);
            }
        }
    }

    private static void probeNumbersOutOfRange() {
        fresh("5 probe: REFUSED for numbers out of range");
        for (int manner = 0; manner <= 13; manner++) {
            int given = manner;
            for (int world : NO_WORLDS) {
                refused("probe(" + world + ", 2, " + manner + ")", probes -> probes.probe(world, LEAF, given));
            }
            for (int type : NO_TYPES) {
                refused("probe(0, " + type + ", " + manner + ")", probes -> probes.probe(0, type, given));
            }
        }
        for (int manner : NO_MANNERS) {
            for (int type = 0; type < 8; type++) {
                int given = type;
                refused("probe(1, " + type + ", " + manner + ")", probes -> probes.probe(1, given, manner));
            }
        }
        refused("probe(-1, 8, 14)", probes -> probes.probe(-1, 8, 14));
        refused("probe(2, -1, -1)", probes -> probes.probe(2, -1, -1));
        refused("probe(2, 5, 0)", probes -> probes.probe(2, FIRM, MAKE));
    }

    private static void probeMannerNotForTheType() {
        fresh("5 probe: REFUSED for a manner that is not for the type");
        for (int manner : new int[] {MAKE, WRITE, MAKE_BY_REFLECTION}) {
            for (int type = FIRM; type <= PLAIN; type++) {
                int given = type;
                refused("probe(0, " + type + ", " + manner + ")", probes -> probes.probe(0, given, manner));
                refused("probe(1, " + type + ", " + manner + ")", probes -> probes.probe(1, given, manner));
            }
            is("manner " + manner + " of the last class", newObject().probe(0, KID, manner), ANSWERED);
        }
    }

    // Promise 6: "The answer of the last probe that was ANSWERED; 0 before the first."

    private static void answerBeforeTheFirst() {
        fresh("6 answer: 0 before the first");
        is("answer()", x.answer(), 0);
        x.order(PLAIN, THROW, 11);
        x.order(LOOSE, BREAK, 12);
        is("REFUSED", x.probe(0, PLAIN, MAKE), REFUSED);
        is("answer() behind REFUSED", x.answer(), 0);
        goesWrong(0, PLAIN, CALL, WRAPPED, 11);
        is("answer() behind WRAPPED", x.answer(), 0);
        goesWrong(0, LOOSE, CALL, BROKEN, 12);
        is("answer() behind BROKEN", x.answer(), 0);
        goesWrong(0, PLAIN, CALL, LOST, 0);
        is("answer() behind LOST", x.answer(), 0);
        probe(0, FIRM, READ, 53);
    }

    private static void answerBehindWrongAndRefused() {
        fresh("6 answer: of the last probe that was ANSWERED");
        probe(1, FIRM, CONSTANT, 505);
        x.order(PLAIN, THROW, 11);
        x.order(LOOSE, BREAK, 12);
        is("WRAPPED", x.probe(0, PLAIN, CALL), WRAPPED);
        is("answer() behind WRAPPED", x.answer(), 505);
        is("BROKEN", x.probe(0, LOOSE, CALL), BROKEN);
        is("answer() behind BROKEN", x.answer(), 505);
        is("LOST", x.probe(0, LOOSE, CALL), LOST);
        is("answer() behind LOST", x.answer(), 505);
        is("REFUSED", x.probe(0, PLAIN, WRITE), REFUSED);
        is("REFUSED", x.probe(0, PLAIN, 14), REFUSED);
        is("answer() behind REFUSED", x.answer(), 505);
        x.build(0);
        x.build(1);
        x.noOrders(PLAIN);
        is("answer() behind build and noOrders", x.answer(), 505);
        probe(1, PLAIN, READ, 71);
        is("answer() asked again", x.answer(), 71);
        changesNothing("answer()", inUse().answer(), Counted::answer);
    }

    private static void answerOfZero() {
        fresh("6 answer: an answer may be 0");
        probe(0, FIRM, CONSTANT, 505);
        probe(0, FIRM, IS_NOTHING_ONE, 0);
        fresh("6 answer: what a program uses is not the probe's answer");
        x.order(ROOT, USE, PLAIN);
        x.order(ROOT, BREAK, 1);
        probe(0, FIRM, CONSTANT, 505);
        goesWrong(0, ROOT, READ, BROKEN, 1);
        events(0, 100, 107, 72);
    }

    // Promise 7: "The number of what went wrong in the last probe that was not REFUSED: that of THROW or
    // BREAK; 0 for LOST, and if it was ANSWERED, and before the first."

    private static void wrongBeforeTheFirst() {
        fresh("7 wrong: 0 before the first");
        is("wrong()", x.wrong(), 0);
        x.order(ROOT, THROW, 5);
        x.build(0);
        is("wrong() behind order and build", x.wrong(), 0);
        is("REFUSED", x.probe(0, 8, READ), REFUSED);
        is("wrong() behind REFUSED", x.wrong(), 0);
        is("WRAPPED", x.probe(0, ROOT, READ), WRAPPED);
        is("wrong()", x.wrong(), 5);
        is("wrong() asked again", x.wrong(), 5);
        changesNothing("wrong()", 77, Counted::wrong);
    }

    private static void wrongOfThrowAndBreak() {
        for (int number : ANY_NUMBERS) {
            fresh("7 wrong: that of THROW or BREAK, " + number);
            x.order(ROOT, THROW, number);
            x.order(SOLO, BREAK, number);
            x.order(PLAIN, USE, KID);
            x.order(LOOSE, USE, LEAF);
            goesWrong(0, ROOT, READ, WRAPPED, number);
            goesWrong(0, SOLO, READ, BROKEN, number);
            goesWrong(1, LOOSE, READ, WRAPPED, number);
            goesWrong(1, PLAIN, READ, BROKEN, number);
        }
        fresh("7 wrong: of the last of several");
        x.order(ROOT, TRY, SOLO);
        x.order(ROOT, USE, FIRM);
        x.order(SOLO, BREAK, 6);
        x.order(FIRM, THROW, 7);
        goesWrong(0, ROOT, READ, WRAPPED, 7);
    }

    private static void wrongOfLostAndAnswered() {
        fresh("7 wrong: 0 for LOST");
        x.order(SOLO, BREAK, 6);
        goesWrong(0, SOLO, READ, BROKEN, 6);
        goesWrong(0, SOLO, READ, LOST, 0);
        goesWrong(1, SOLO, READ, BROKEN, 6);
        goesWrong(0, KID, READ, LOST, 0);
        fresh("7 wrong: 0 for LOST, behind a TRY");
        x.order(SOLO, BREAK, 6);
        x.order(ROOT, TRY, SOLO);
        x.order(ROOT, USE, SOLO);
        goesWrong(0, ROOT, READ, LOST, 0);
        events(0, 100, 103, 1206);
        fresh("7 wrong: 0 if it was ANSWERED");
        x.order(SOLO, BREAK, 6);
        x.order(ROOT, TRY, SOLO);
        goesWrong(0, SOLO, READ, BROKEN, 6);
        probe(0, SOLO, CONSTANT, 503);
        goesWrong(1, SOLO, READ, BROKEN, 6);
        probe(1, ROOT, READ, 3);
        x.build(0);
        probe(0, ROOT, READ, 3);
        events(0, 100, 103, 1206);
    }

    private static void wrongBehindRefused() {
        fresh("7 wrong: of the last probe that was not REFUSED");
        x.order(SOLO, BREAK, 6);
        goesWrong(0, SOLO, READ, BROKEN, 6);
        is("REFUSED", x.probe(0, FIRM, MAKE), REFUSED);
        is("wrong() behind a manner not for the type", x.wrong(), 6);
        is("REFUSED", x.probe(2, FIRM, READ), REFUSED);
        is("REFUSED", x.probe(-1, FIRM, READ), REFUSED);
        is("wrong() behind no world", x.wrong(), 6);
        is("REFUSED", x.probe(0, 8, READ), REFUSED);
        is("REFUSED", x.probe(0, -1, READ), REFUSED);
        is("wrong() behind no type", x.wrong(), 6);
        is("REFUSED", x.probe(0, FIRM, 14), REFUSED);
        is("REFUSED", x.probe(0, FIRM, -1), REFUSED);
        is("wrong() behind no manner", x.wrong(), 6);
        x.build(0);
        x.noOrders(SOLO);
        x.order(SOLO, THROW, 8);
        is("wrong() behind other calls", x.wrong(), 6);
    }

    // Promise 8: "How many EVENTS the world has noted; REFUSED for others."

    private static void eventsCounted() {
        for (int world = 0; world < 2; world++) {
            for (int count = 0; count <= MOST_EVENTS; count++) {
                fresh("8 events: how many the world has noted, " + count);
                noteEvents(world, count);
                is("events(" + world + ")", x.events(world), count);
                is("events of the other world", x.events(1 - world), 0);
            }
            for (int type = 0; type < 8; type++) {
                x.probe(world, type, READ);
            }
            is("no more come", x.events(world), MOST_EVENTS);
            probe(1 - world, SOLO, READ, 36);
            is("events(" + world + ")", x.events(world), MOST_EVENTS);
            is("events of the other world", x.events(1 - world), 6);
        }
    }

    private static void eventsRefused() {
        fresh("8 events: REFUSED for others");
        for (int world : NO_WORLDS) {
            refused("events(" + world + ")", probes -> probes.events(world));
        }
        changesNothing("events(0)", inUse().events(0), probes -> probes.events(0));
    }

    // Promise 9: "The i-th last EVENT of the world (0 the last, to 31); REFUSED if there is none (an EVENT
    // may be that too)."

    private static void eventOfEachCount() {
        for (int world = 0; world < 2; world++) {
            for (int count = 0; count <= MOST_EVENTS; count++) {
                fresh("9 event: with " + count + " noted");
                int[] noted = noteEvents(world, count);
                for (int i = -1; i <= MOST_EVENTS + 1; i++) {
                    boolean isThere = i >= 0 && i <= 31 && i < count;
                    int want = isThere ? noted[count - 1 - i] : REFUSED;
                    is("event(" + world + ", " + i + ")", x.event(world, i), want);
                }
                is("event of the other world", x.event(1 - world, 0), REFUSED);
            }
        }
    }

    private static void eventMayBeRefusedToo() {
        fresh("9 event: an EVENT may be that too");
        x.order(PLAIN, NOTE, -1);
        x.order(PLAIN, NOTE, 5);
        x.order(PLAIN, GUARD, -1);
        x.order(PLAIN, NOTE, -2);
        probe(0, PLAIN, READ, 75);
        events(0, 107, -1, 5, -2, -1);
        is("behind the first", x.event(0, 5), REFUSED);
    }

    private static void eventRefused() {
        fresh("9 event: REFUSED if there is none");
        for (int world : NO_WORLDS) {
            refused("event(" + world + ", 0)", probes -> probes.event(world, 0));
            refused("event(" + world + ", 31)", probes -> probes.event(world, 31));
        }
        for (int i : new int[] {-1, 32, 33, 63, 64, -32, 256, 1 << 16, MIN, MAX}) {
            refused("event(0, " + i + ")", probes -> probes.event(0, i));
            refused("event(1, " + i + ")", probes -> probes.event(1, i));
        }
        changesNothing("event(0, 0)", inUse().event(0, 0), probes -> probes.event(0, 0));
    }
}
