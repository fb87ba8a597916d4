/**
 * Probes of how types start. Eight types in two worlds are started by the uses that start a type;
 * what an initializer does is programmed beforehand, and what went wrong at a start is kept.
 */
public final class StartupProbes {
    public static final int REFUSED = -1;
    public static final int ANSWERED = 0;
    public static final int WRAPPED = 1;
    public static final int BROKEN = 2;
    public static final int LOST = 3;

    /** Goes wrong inside an initializer only: a start turns it into WRAPPED. */
    private static final int THROWN = 4;
    private static final int PROGRAM_FULL = -2;

    private static final int WORLDS = 2;
    private static final int TYPES = 8;
    private static final int PROGRAM_SIZE = 5;
    /** How many of the last events can be asked for: a power of two, so that a mask wraps the ring. */
    private static final int RECALLED = 32;

    private static final int NO_TYPE = -1;
    private static final int ROOT = 0;
    private static final int MIDDLE = 1;
    private static final int SOLO = 3;
    private static final int LAST_CLASS = 4;
    private static final int FIRM = 5;

    private static final int[] SUPERCLASS = {
        NO_TYPE, ROOT, MIDDLE, NO_TYPE, SOLO, NO_TYPE, NO_TYPE, NO_TYPE
    };
    /**
     * The interface that a class starts after its superclass. FIRM is the only one with a default
     * method. LEAF comes upon it twice, by itself and before LOOSE, but the second time there is
     * nothing left to start.
     */
    private static final int[] STARTED_INTERFACE = {
        NO_TYPE, NO_TYPE, FIRM, NO_TYPE, FIRM, NO_TYPE, NO_TYPE, NO_TYPE
    };

    private static final int NEW = 0;
    private static final int UNDER_WAY = 1;
    private static final int DONE = 2;
    private static final int FAILED = 3;

    private static final int NOTE = 0;
    private static final int USE = 1;
    private static final int THROW = 2;
    private static final int BREAK = 3;
    private static final int TRY = 4;
    private static final int GUARD = 5;

    private static final int MAKE = 0;
    private static final int CALL = 1;
    private static final int READ = 2;
    private static final int WRITE = 3;
    private static final int CONSTANT = 4;
    private static final int ROW = 5;
    private static final int LOOK_UP = 6;
    private static final int LOOK_UP_STARTING = 7;
    private static final int CALL_BY_REFLECTION = 8;
    private static final int CALL_BY_HANDLE = 9;
    private static final int CALL_ROOT_AS_LEAF = 10;
    private static final int IS_NOTHING_ONE = 11;
    private static final int MAKE_BY_REFLECTION = 12;
    private static final int READ_BY_HANDLE = 13;

    private static final int WRITTEN = 7;

    private final int[][] orders;
    private final int[][] numbers;
    private final int[] programSizes;

    private final int[][] states;
    private final int[][] values;
    private final int[][] lastEvents;
    private final int[] eventCounts;

    private int lastAnswer;
    /** The number of what goes wrong at the moment, or went wrong in the last probe; else 0. */
    private int wrongNumber;

    public StartupProbes() {
        orders = new int[TYPES][PROGRAM_SIZE];
        numbers = new int[TYPES][PROGRAM_SIZE];
        programSizes = new int[TYPES];
        states = new int[WORLDS][TYPES];
        values = new int[WORLDS][TYPES];
        lastEvents = new int[WORLDS][RECALLED];
        eventCounts = new int[WORLDS];
        lastAnswer = 0;
        wrongNumber = 0;
    }

    public int order(int type, int order, int number) {
        if (!isType(type) || order < NOTE || order > GUARD) {
            return REFUSED;
        }
        int size = programSizes[type];
        if (size >= PROGRAM_SIZE) {
            return PROGRAM_FULL;
        }
        orders[type][size] = order;
        numbers[type][size] = number;
        programSizes[type] = size + 1;
        return size + 1;
    }

    public int noOrders(int type) {
        if (!isType(type)) {
            return REFUSED;
        }
        int size = programSizes[type];
        programSizes[type] = 0;
        return size;
    }

    public int build(int world) {
        if (!isWorld(world)) {
            return REFUSED;
        }
        for (int type = 0; type < TYPES; type++) {
            states[world][type] = NEW;
            values[world][type] = 0;
        }
        eventCounts[world] = 0;
        return 0;
    }

    public int probe(int world, int type, int manner) {
        if (!isWorld(world) || !isType(type) || !isMannerFor(type, manner)) {
            return REFUSED;
        }
        wrongNumber = 0;
        int outcome = start(world, typeStartedBy(type, manner), 0);
        if (outcome == ANSWERED) {
            lastAnswer = useStarted(world, type, manner);
        }
        return outcome;
    }

    public int answer() {
        return lastAnswer;
    }

    public int wrong() {
        return wrongNumber;
    }

    public int events(int world) {
        return isWorld(world) ? eventCounts[world] : REFUSED;
    }

    public int event(int world, int i) {
        if (!isWorld(world) || i < 0 || i >= RECALLED || i >= eventCounts[world]) {
            return REFUSED;
        }
        return lastEvents[world][(eventCounts[world] - 1 - i) & (RECALLED - 1)];
    }

    private static boolean isWorld(int world) {
        return world >= 0 && world < WORLDS;
    }

    private static boolean isType(int type) {
        return type >= 0 && type < TYPES;
    }

    private static boolean isMannerFor(int type, int manner) {
        if (manner == MAKE || manner == WRITE || manner == MAKE_BY_REFLECTION) {
            return type <= LAST_CLASS;
        }
        return manner >= MAKE && manner <= READ_BY_HANDLE;
    }

    private static int typeStartedBy(int type, int manner) {
        switch (manner) {
            case CONSTANT:
            case ROW:
            case LOOK_UP:
            case IS_NOTHING_ONE:
                return NO_TYPE;
            case CALL_ROOT_AS_LEAF:
                return ROOT;
            default:
                return type;
        }
    }

    /** The use itself, behind the start: its answer. */
    private int useStarted(int world, int type, int manner) {
        switch (manner) {
            case CALL:
            case CALL_BY_REFLECTION:
            case CALL_BY_HANDLE:
                return values[world][type] + 1;
            case CALL_ROOT_AS_LEAF:
                return values[world][ROOT] + 1;
            case READ:
            case READ_BY_HANDLE:
                return values[world][type];
            case WRITE:
                values[world][type] = WRITTEN;
                return WRITTEN;
            case CONSTANT:
                return 500 + type;
            case ROW:
                return 3;
            case IS_NOTHING_ONE:
                return 0;
            case MAKE:
            case MAKE_BY_REFLECTION:
            case LOOK_UP:
            case LOOK_UP_STARTING:
            default:
                return 1;
        }
    }

    /**
     * Starts a type, or NO_TYPE: ANSWERED, or what goes wrong. The depth is how many types of the
     * world are UNDER WAY, so that at the depth TYPES there is none left that could start.
     */
    private int start(int world, int type, int depth) {
        if (type == NO_TYPE || depth >= TYPES) {
            return ANSWERED;
        }
        if (states[world][type] == FAILED) {
            wrongNumber = 0;
            return LOST;
        }
        if (states[world][type] != NEW) {
            return ANSWERED;
        }
        states[world][type] = UNDER_WAY;
        int outcome = startAbove(world, type, depth + 1);
        if (outcome == ANSWERED) {
            outcome = initialize(world, type, depth + 1);
        }
        states[world][type] = outcome == ANSWERED ? DONE : FAILED;
        return outcome;
    }

    private int startAbove(int world, int type, int depth) {
        int outcome = start(world, SUPERCLASS[type], depth);
        return outcome == ANSWERED ? start(world, STARTED_INTERFACE[type], depth) : outcome;
    }

    private int initialize(int world, int type, int depth) {
        note(world, 100 + type);
        int outcome = runProgram(world, type, depth);
        if (outcome == ANSWERED) {
            values[world][type] = 10 * type + eventCounts[world];
        }
        return outcome == THROWN ? WRAPPED : outcome;
    }

    private int runProgram(int world, int type, int depth) {
        int outcome = ANSWERED;
        int reached = 0;
        while (reached < programSizes[type] && outcome == ANSWERED) {
            outcome = obey(world, orders[type][reached], numbers[type][reached], depth);
            reached++;
        }
        noteGuards(world, type, reached);
        return outcome;
    }

    private void noteGuards(int world, int type, int reached) {
        for (int i = reached - 1; i >= 0; i--) {
            if (orders[type][i] == GUARD) {
                note(world, numbers[type][i]);
            }
        }
    }

    /** Does one order: ANSWERED, or what goes wrong. A GUARD does its part at the program's end. */
    private int obey(int world, int order, int number, int depth) {
        switch (order) {
            case NOTE:
                note(world, number);
                return ANSWERED;
            case USE:
                return readAndNote(world, number & (TYPES - 1), depth);
            case THROW:
                wrongNumber = number;
                return THROWN;
            case BREAK:
                wrongNumber = number;
                return BROKEN;
            case TRY:
                noteIfWrong(world, readAndNote(world, number & (TYPES - 1), depth));
                return ANSWERED;
            default:
                return ANSWERED;
        }
    }

    private int readAndNote(int world, int type, int depth) {
        int outcome = start(world, type, depth);
        if (outcome == ANSWERED) {
            note(world, values[world][type]);
        }
        return outcome;
    }

    private void noteIfWrong(int world, int outcome) {
        if (outcome != ANSWERED) {
            note(world, 1000 + 100 * outcome + (wrongNumber & 63));
            wrongNumber = 0;
        }
    }

    private void note(int world, int event) {
        lastEvents[world][eventCounts[world] & (RECALLED - 1)] = event;
        eventCounts[world]++;
    }
}
