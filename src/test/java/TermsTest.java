/**
 * The sentences of "Terms" from TO START on: how types start, what the orders do and what each
 * manner of use answers, with the edges that the sentences name.
 */
public final class TermsTest extends Bench {
    public static void main(String[] args) {
        hold("TermsTest", TermsTest::sentences);
    }

    private static void sentences() {
        startOfNew();
        startOfDone();
        startOfUnderWay();
        startOfFailed();
        wrongAbove();
        wrongInside();
        valueOfStart();
        allUnderWayAtOnce();
        note();
        use();
        throwAndBreak();
        tryOfWhatAnswers();
        tryOfWhatGoesWrong();
        guards();
        guardsAndWhatGoesWrong();
        manners();
        mannersOfClasses();
        written();
    }

    // "NEW: it is UNDER WAY. If it is a class: its superclass is started, if it has one; then, for each of its
    // own interfaces in order: the interface is started if it has a default method"

    private static void startOfNew() {
        fresh("NEW: those above are started before it, if they are NEW too");
        probe(0, FIRM, READ, 51);
        probe(0, MIDDLE, READ, 13);
        probe(0, LEAF, READ, 24);
        probe(0, KID, READ, 46);
        events(0, 105, 100, 101, 102, 103, 104);
        probe(1, KID, READ, 43);
        probe(1, LEAF, READ, 26);
        events(1, 103, 105, 104, 100, 101, 102);
        fresh("LOOSE is not started by that, nor PLAIN");
        x.order(LOOSE, BREAK, 1);
        x.order(PLAIN, BREAK, 2);
        probe(0, LEAF, MAKE, 1);
        probe(0, KID, MAKE, 1);
        goesWrong(0, LOOSE, READ, BROKEN, 1);
        goesWrong(0, PLAIN, READ, BROKEN, 2);
        fresh("an interface starts none of those that it extends");
        x.order(FIRM, BREAK, 3);
        probe(0, LOOSE, READ, 61);
        events(0, 106);
        goesWrong(0, FIRM, READ, BROKEN, 3);
        probe(0, LOOSE, READ, 61);
    }

    // "DONE, or UNDER WAY: nothing"

    private static void startOfDone() {
        for (int type = 0; type < 8; type++) {
            fresh("DONE: nothing, type " + type);
            int value = 10 * type + FIRST_START[type].length;
            probe(0, type, READ, value);
            x.order(type, THROW, 9);
            for (int manner : STARTING) {
                if (manner != WRITE && isFor(type, manner)) {
                    is("manner " + manner, x.probe(0, type, manner), ANSWERED);
                }
            }
            probe(0, type, READ, value);
            events(0, FIRST_START[type]);
        }
    }

    private static void startOfUnderWay() {
        for (int type = 0; type < 8; type++) {
            fresh("UNDER WAY: nothing, type " + type);
            x.order(type, USE, type);
            x.order(type, TRY, type);
            probe(0, type, READ, 10 * type + FIRST_START[type].length + 2);
            events(0, joined(FIRST_START[type], 0, 0));
        }
        fresh("UNDER WAY: a superclass that uses its subclass");
        x.order(ROOT, USE, MIDDLE);
        probe(0, ROOT, READ, 3);
        events(0, 100, 101, 12);
        probe(1, MIDDLE, READ, 13);
        events(1, 100, 0, 101);
        fresh("UNDER WAY: a subclass that fails under its superclass");
        x.order(SOLO, TRY, KID);
        x.order(KID, USE, SOLO);
        x.order(KID, THROW, 64 + 7);
        probe(0, SOLO, READ, 35);
        events(0, 103, 105, 104, 0, 1107);
        goesWrong(0, KID, READ, LOST, 0);
    }

    // "FAILED: LOST goes wrong"

    private static void startOfFailed() {
        for (int type = 0; type < 8; type++) {
            startOfFailed(type, THROW, WRAPPED);
            startOfFailed(type, BREAK, BROKEN);
        }
        fresh("FAILED: a type is LOST in that world alone");
        x.order(SOLO, THROW, 3);
        goesWrong(0, SOLO, READ, WRAPPED, 3);
        x.noOrders(SOLO);
        goesWrong(0, SOLO, READ, LOST, 0);
        goesWrong(0, KID, READ, LOST, 0);
        probe(1, KID, READ, 43);
        fresh("FAILED: the class is LOST, but ROOT is not");
        x.order(MIDDLE, THROW, 4);
        goesWrong(0, MIDDLE, READ, WRAPPED, 4);
        probe(0, MIDDLE, AS_LEAF, 2);
        goesWrong(0, LEAF, READ, LOST, 0);
        probe(0, LEAF, AS_LEAF, 2);
    }

    private static void startOfFailed(int type, int order, int outcome) {
        fresh("FAILED: LOST goes wrong, type " + type + " by order " + order);
        x.order(type, order, 70);
        goesWrong(0, type, READ, outcome, 70);
        for (int again = 0; again < 2; again++) {
            for (int manner : STARTING) {
                if (isFor(type, manner)) {
                    goesWrong(0, type, manner, LOST, 0);
                }
            }
            x.noOrders(type);
        }
        for (int manner : NOT_STARTING) {
            is("manner " + manner, x.probe(0, type, manner), ANSWERED);
        }
        events(0, FIRST_START[type]);
    }

    // "What goes wrong there makes the type FAILED, and goes wrong here too."

    private static void wrongAbove() {
        fresh("a superclass goes wrong");
        x.order(ROOT, THROW, 17);
        goesWrong(0, LEAF, MAKE, WRAPPED, 17);
        events(0, 100);
        x.noOrders(ROOT);
        goesWrong(0, LEAF, MAKE, LOST, 0);
        goesWrong(0, MIDDLE, MAKE, LOST, 0);
        goesWrong(0, ROOT, MAKE, LOST, 0);
        events(0, 100);
        probe(0, FIRM, READ, 52);
        fresh("a superclass is FAILED already");
        x.order(SOLO, BREAK, 19);
        goesWrong(0, SOLO, MAKE, BROKEN, 19);
        goesWrong(0, KID, MAKE, LOST, 0);
        events(0, 103);
        probe(0, FIRM, READ, 52);
        fresh("an interface goes wrong, and is FAILED already");
        x.order(FIRM, BREAK, 18);
        goesWrong(0, LEAF, MAKE, BROKEN, 18);
        events(0, 100, 101, 105);
        goesWrong(0, LEAF, MAKE, LOST, 0);
        goesWrong(0, KID, MAKE, LOST, 0);
        events(0, 100, 101, 105, 103);
        probe(0, MIDDLE, CALL, 13);
        probe(0, SOLO, CALL, 35);
        probe(0, LOOSE, READ, 65);
    }

    // "What goes wrong there makes it FAILED, and goes wrong here, but a THROWN one as WRAPPED with its
    // number."

    private static void wrongInside() {
        fresh("WRAPPED is not wrapped again");
        x.order(PLAIN, USE, LOOSE);
        x.order(PLAIN, NOTE, 1);
        x.order(LOOSE, THROW, -5);
        goesWrong(0, PLAIN, READ, WRAPPED, -5);
        events(0, 107, 106);
        goesWrong(0, PLAIN, READ, LOST, 0);
        goesWrong(0, LOOSE, READ, LOST, 0);
        fresh("BROKEN goes through");
        x.order(PLAIN, USE, LOOSE);
        x.order(LOOSE, BREAK, MIN);
        goesWrong(0, PLAIN, READ, BROKEN, MIN);
        goesWrong(0, PLAIN, READ, LOST, 0);
        fresh("LOST goes through");
        x.order(LOOSE, THROW, 4);
        goesWrong(0, LOOSE, READ, WRAPPED, 4);
        x.order(PLAIN, USE, LOOSE);
        goesWrong(0, PLAIN, READ, LOST, 0);
        x.noOrders(PLAIN);
        goesWrong(0, PLAIN, READ, LOST, 0);
        events(0, 106, 107);
    }

    // "its VALUE becomes 10 * type + how many EVENTS this world has noted so far (with that of this start)"

    private static void valueOfStart() {
        fresh("the VALUE counts the events of this world, and those of guards");
        x.order(ROOT, GUARD, 1);
        x.order(ROOT, NOTE, 2);
        probe(0, ROOT, READ, 3);
        probe(0, SOLO, READ, 34);
        probe(0, PLAIN, READ, 75);
        probe(0, ROOT, READ, 3);
        probe(1, SOLO, READ, 31);
        for (int world = 0; world < 2; world++) {
            fresh("the VALUE counts more events than can be asked for, world " + world);
            noteEvents(world, MOST_EVENTS);
            for (int n = 0; n < 8; n++) {
                probe(world, IN_TURN[n], READ, 10 * IN_TURN[n] + 6 * (n + 1));
            }
        }
    }

    private static void allUnderWayAtOnce() {
        fresh("all eight under way at once");
        x.order(PLAIN, USE, LOOSE);
        x.order(LOOSE, USE, LEAF);
        x.order(ROOT, USE, FIRM);
        x.order(FIRM, USE, KID);
        for (int type = 0; type < 5; type++) {
            x.order(SOLO, USE, 2 * type);
        }
        probe(0, PLAIN, READ, 87);
        events(0, 107, 106, 100, 105, 103, 0, 0, 0, 0, 0, 104, 51, 62, 101, 102, 35, 76);
    }

    // "0 NOTE n: an EVENT n"

    private static void note() {
        for (int number : ANY_NUMBERS) {
            fresh("NOTE " + number);
            x.order(SOLO, NOTE, number);
            probe(0, SOLO, READ, 32);
            events(0, 103, number);
        }
    }

    // "1 USE n: the type n & 7 is used as by manner 2 in this world, and the EVENT is what it answers"

    private static void use() {
        for (int type = 0; type < 8; type++) {
            for (int number : numbersOf(type)) {
                usedBy(USE, number, type);
            }
        }
        fresh("USE: in this world");
        probe(1, PLAIN, READ, 71);
        x.order(LOOSE, USE, PLAIN);
        x.order(PLAIN, THROW, 6);
        goesWrong(0, LOOSE, READ, WRAPPED, 6);
        probe(1, LOOSE, READ, 63);
        events(1, 107, 106, 71);
    }

    private static void usedBy(int order, int number, int type) {
        fresh("order " + order + " with " + number + " is of the type " + type);
        x.order(LOOSE, order, number);
        is("probe", x.probe(0, LOOSE, READ), ANSWERED);
        if (type == LOOSE) {
            events(0, 106, 0);
            return;
        }
        int value = 10 * type + 1 + FIRST_START[type].length;
        events(0, joined(joined(new int[] {106}, FIRST_START[type]), value));
        is("probe again", x.probe(0, type, READ), ANSWERED);
        is("the VALUE was the event", x.answer(), value);
    }

    /** Numbers whose lowest three bits are the type, below 0 and far above too. */
    private static int[] numbersOf(int type) {
        return new int[] {
            type, type + 8, type - 8, type + 64, type - 64,
            type + (1 << 16), type - (1 << 16), MIN + type, MAX - 7 + type
        };
    }

    // "2 THROW n: THROWN goes wrong, with the number n", "3 BREAK n: BROKEN goes wrong, with the number n"

    private static void throwAndBreak() {
        for (int number : ANY_NUMBERS) {
            fresh("THROW and BREAK " + number);
            x.order(SOLO, THROW, number);
            x.order(SOLO, NOTE, 1);
            x.order(PLAIN, BREAK, number);
            x.order(PLAIN, NOTE, 1);
            goesWrong(0, SOLO, READ, WRAPPED, number);
            goesWrong(0, PLAIN, READ, BROKEN, number);
            events(0, 103, 107);
        }
    }

    // "4 TRY n: as USE, but if something goes wrong, the EVENT is 1000 + 100 * what it is ... + the number that
    // it has & 63 (LOST has 0), and it is not wrong any more"

    private static void tryOfWhatAnswers() {
        for (int type = 0; type < 8; type++) {
            for (int number : numbersOf(type)) {
                usedBy(TRY, number, type);
            }
        }
    }

    private static void tryOfWhatGoesWrong() {
        for (int number : ANY_NUMBERS) {
            tried(THROW, number, 1100 + Math.floorMod(number, 64));
            tried(BREAK, number, 1200 + Math.floorMod(number, 64));
        }
        for (int type = 0; type < 6; type++) {
            for (int number : numbersOf(type)) {
                fresh("TRY " + number + " of the type " + type + " that goes wrong");
                x.order(LOOSE, TRY, number);
                x.order(type, BREAK, 63);
                is("probe", x.probe(0, LOOSE, READ), ANSWERED);
                events(0, joined(joined(new int[] {106}, FIRST_START[type]), 1263));
            }
        }
        fresh("TRY: LOST has 0");
        x.order(FIRM, BREAK, 50);
        goesWrong(0, FIRM, READ, BROKEN, 50);
        x.order(ROOT, TRY, FIRM);
        x.order(ROOT, TRY, LEAF);
        x.order(ROOT, TRY, -1);
        probe(0, ROOT, READ, 7);
        events(0, 105, 100, 1300, 101, 1300, 107, 76);
        fresh("TRY: LOST has 0, behind one that had a number");
        x.order(FIRM, THROW, 50);
        x.order(ROOT, TRY, FIRM);
        x.order(ROOT, TRY, FIRM);
        probe(0, ROOT, READ, 4);
        events(0, 100, 105, 1150, 1300);
        fresh("TRY, and then THROW all the same");
        x.order(FIRM, BREAK, 50);
        x.order(ROOT, TRY, FIRM);
        x.order(ROOT, THROW, 51);
        goesWrong(0, ROOT, READ, WRAPPED, 51);
        events(0, 100, 105, 1250);
    }

    private static void tried(int order, int number, int event) {
        fresh("TRY with order " + order + " " + number);
        x.order(ROOT, TRY, PLAIN);
        x.order(ROOT, NOTE, 1);
        x.order(PLAIN, order, number);
        probe(0, ROOT, READ, 4);
        events(0, 100, 107, event, 1);
        goesWrong(0, PLAIN, READ, LOST, 0);
    }

    // "5 GUARD n: from here to the end of the program, whatever goes wrong, at the end the EVENT n is noted (of
    // several, those behind first)."

    private static void guards() {
        for (int count = 1; count <= 5; count++) {
            fresh("of several GUARDs those behind first, of " + count);
            int[] noted = new int[count];
            for (int n = 0; n < count; n++) {
                x.order(PLAIN, GUARD, 80 + n);
                noted[count - 1 - n] = 80 + n;
            }
            probe(0, PLAIN, READ, 71 + count);
            events(0, joined(new int[] {107}, noted));
        }
        for (int number : ANY_NUMBERS) {
            fresh("GUARD " + number);
            x.order(PLAIN, GUARD, number);
            x.order(PLAIN, NOTE, 5);
            probe(0, PLAIN, READ, 73);
            events(0, 107, 5, number);
        }
        fresh("GUARDs among other orders");
        x.order(PLAIN, GUARD, 1);
        x.order(PLAIN, NOTE, 2);
        x.order(PLAIN, GUARD, 3);
        x.order(PLAIN, NOTE, 4);
        x.order(PLAIN, GUARD, 5);
        probe(0, PLAIN, READ, 76);
        events(0, 107, 2, 4, 5, 3, 1);
    }

    private static void guardsAndWhatGoesWrong() {
        fresh("GUARD, whatever goes wrong, but not from behind it");
        x.order(PLAIN, GUARD, 1);
        x.order(PLAIN, GUARD, 2);
        x.order(PLAIN, USE, LOOSE);
        x.order(PLAIN, GUARD, 3);
        x.order(LOOSE, GUARD, 4);
        x.order(LOOSE, BREAK, 90);
        x.order(LOOSE, NOTE, 5);
        x.order(LOOSE, GUARD, 6);
        goesWrong(0, PLAIN, READ, BROKEN, 90);
        events(0, 107, 106, 4, 2, 1);
        x.build(0);
        goesWrong(0, LOOSE, READ, BROKEN, 90);
        goesWrong(0, PLAIN, READ, LOST, 0);
        events(0, 106, 4, 107, 2, 1);
        fresh("GUARD and THROW, at the last places");
        x.order(PLAIN, NOTE, 1);
        x.order(PLAIN, NOTE, 2);
        x.order(PLAIN, NOTE, 3);
        x.order(PLAIN, GUARD, 4);
        x.order(PLAIN, THROW, 91);
        goesWrong(0, PLAIN, READ, WRAPPED, 91);
        events(0, 107, 1, 2, 3, 4);
        fresh("no GUARD where the superclass goes wrong");
        x.order(MIDDLE, GUARD, 1);
        x.order(ROOT, THROW, 2);
        goesWrong(0, MIDDLE, READ, WRAPPED, 2);
        events(0, 100);
    }

    // The MANNERS: what each answers, and whether it starts the type.

    private static void manners() {
        for (int type = 0; type < 8; type++) {
            for (int manner : STARTING) {
                if (isFor(type, manner)) {
                    mannerThatStarts(type, manner);
                }
            }
            for (int manner : NOT_STARTING) {
                mannerThatDoesNotStart(type, manner);
            }
            rootAsLeaf(type);
        }
    }

    private static void mannerThatStarts(int type, int manner) {
        fresh("manner " + manner + " starts the type " + type);
        probe(0, type, manner, answerOf(type, manner));
        events(0, FIRST_START[type]);
        x.order(type, THROW, 88);
        goesWrong(1, type, manner, WRAPPED, 88);
        goesWrong(1, type, manner, LOST, 0);
    }

    private static void mannerThatDoesNotStart(int type, int manner) {
        fresh("manner " + manner + " does not start the type " + type);
        x.order(type, THROW, 88);
        probe(0, type, manner, answerOf(type, manner));
        events(0);
        goesWrong(0, type, READ, WRAPPED, 88);
        probe(0, type, manner, answerOf(type, manner));
        events(0, FIRST_START[type]);
    }

    private static int answerOf(int type, int manner) {
        int value = 10 * type + FIRST_START[type].length;
        int[] answers = {1, value + 1, value, 7, 500 + type, 3, 1, 1, value + 1, value + 1, 2, 0, 1, value};
        return answers[manner];
    }

    private static void rootAsLeaf(int type) {
        fresh("manner 10 starts ROOT, whatever the type, with " + type);
        probe(0, type, AS_LEAF, 2);
        events(0, 100);
        probe(0, ROOT, WRITE, 7);
        probe(0, type, AS_LEAF, 8);
        x.order(ROOT, BREAK, 12);
        goesWrong(1, type, AS_LEAF, BROKEN, 12);
        goesWrong(1, type, AS_LEAF, LOST, 0);
    }

    // "(of a class; else REFUSED)"

    private static void mannersOfClasses() {
        for (int manner = 0; manner <= 13; manner++) {
            for (int type = 0; type < 8; type++) {
                fresh("manner " + manner + " of the type " + type);
                is("probe", x.probe(1, type, manner), isFor(type, manner) ? ANSWERED : REFUSED);
                if (!isFor(type, manner)) {
                    events(1);
                }
            }
        }
    }

    // "3 WRITE 7 as its VALUE (of a class): starts it. The answer is 7."

    private static void written() {
        for (int type = 0; type <= KID; type++) {
            fresh("WRITE, type " + type);
            int events = FIRST_START[type].length;
            probe(0, type, WRITE, 7);
            probe(0, type, READ, 7);
            probe(0, type, 13, 7);
            probe(0, type, CALL, 8);
            probe(0, type, 8, 8);
            probe(0, type, 9, 8);
            probe(0, type, MAKE, 1);
            is("events", x.events(0), events);
            probe(1, type, READ, 10 * type + events);
            x.order(PLAIN, USE, type);
            probe(0, PLAIN, READ, 72 + events);
            is("event", x.event(0, 0), 7);
        }
    }
}
