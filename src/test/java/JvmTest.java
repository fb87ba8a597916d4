import java.util.ArrayList;
import java.util.List;
import java.util.Random;

/**
 * Runs of 512 calls, the same in every run of the test, with the answers that real types give in
 * the JVM. All arguments come, wrong ones too, and no call may throw.
 */
public final class JvmTest {
    private static final int RUNS = 600;
    private static final int CALLS = 512;
    private static final int[] FAR = {Integer.MIN_VALUE, Integer.MAX_VALUE, -1, 64, 1 << 16, -1000};

    private final Due due;
    private final int run;
    private final Random random;
    /** How seldom an order is one that goes wrong: runs in which most starts fail show little. */
    private final int calm;
    private final StartupProbes x = new StartupProbes();
    private final List<List<int[]>> programs = new ArrayList<>();
    private final JvmWorld[] worlds = new JvmWorld[2];
    private int answer;
    private int wrong;
    private int calls;

    private JvmTest(Due due, int run) throws ReflectiveOperationException {
        this.due = due;
        this.run = run;
        random = new Random(run);
        calm = run % 4;
        for (int type = 0; type < 8; type++) {
            programs.add(new ArrayList<>());
        }
        worlds[0] = new JvmWorld(programs);
        worlds[1] = new JvmWorld(programs);
    }

    public static void main(String[] args) throws ReflectiveOperationException {
        Due due = new Due("JvmTest");
        for (int run = 0; run < RUNS && !due.anyWrong(); run++) {
            new JvmTest(due, run).callUntilTheEnd();
        }
        due.end();
    }

    private void callUntilTheEnd() throws ReflectiveOperationException {
        while (calls < CALLS && !due.anyWrong()) {
            int kind = random.nextInt(100);
            if (kind < 22) {
                order(upTo(8), orderKind(), anyNumber());
            } else if (kind < 27) {
                noOrders(upTo(8));
            } else if (kind < 34) {
                build(upTo(2));
            } else if (kind < 60) {
                probe(upTo(2), upTo(8), upTo(14));
            } else if (kind < 70) {
                is("answer()", x.answer(), answer);
            } else if (kind < 80) {
                is("wrong()", x.wrong(), wrong);
            } else if (kind < 88) {
                events(upTo(2));
            } else {
                event(upTo(2), upTo(random.nextBoolean() ? 6 : 40));
            }
        }
    }

    private void order(int type, int order, int number) {
        int want;
        if (isOutside(type, 8) || isOutside(order, 6)) {
            want = -1;
        } else if (programs.get(type).size() == 5) {
            want = -2;
        } else {
            programs.get(type).add(new int[] {order, number});
            want = programs.get(type).size();
        }
        is("order(" + type + ", " + order + ", " + number + ")", x.order(type, order, number), want);
    }

    private void noOrders(int type) {
        int want = -1;
        if (!isOutside(type, 8)) {
            want = programs.get(type).size();
            programs.get(type).clear();
        }
        is("noOrders(" + type + ")", x.noOrders(type), want);
    }

    private void build(int world) throws ReflectiveOperationException {
        int want = -1;
        if (!isOutside(world, 2)) {
            want = 0;
            worlds[world] = new JvmWorld(programs);
        }
        is("build(" + world + ")", x.build(world), want);
    }

    private void probe(int world, int type, int manner) {
        int want = -1;
        boolean forClasses = manner == 0 || manner == 3 || manner == 12;
        if (!isOutside(world, 2) && !isOutside(type, forClasses ? 5 : 8) && !isOutside(manner, 14)) {
            want = worlds[world].probe(type, manner);
            wrong = worlds[world].number;
            answer = want == 0 ? worlds[world].answer : answer;
        }
        is("probe(" + world + ", " + type + ", " + manner + ")", x.probe(world, type, manner), want);
    }

    private void events(int world) {
        is("events(" + world + ")", x.events(world), isOutside(world, 2) ? -1 : worlds[world].events.size());
    }

    private void event(int world, int i) {
        int want = -1;
        if (!isOutside(world, 2) && !isOutside(i, 32) && i < worlds[world].events.size()) {
            want = worlds[world].events.get(worlds[world].events.size() - 1 - i);
        }
        is("event(" + world + ", " + i + ")", x.event(world, i), want);
    }

    private void is(String call, int got, int want) {
        calls++;
        due.is("run " + run + ", call " + calls + ": " + call, got, want);
    }

    private static boolean isOutside(int number, int bound) {
        return number < 0 || number >= bound;
    }

    /** A number below the bound, and now and then the bound itself or one that is far from it. */
    private int upTo(int bound) {
        int kind = random.nextInt(60);
        if (kind == 0) {
            return FAR[random.nextInt(FAR.length)];
        }
        return kind == 1 ? bound : random.nextInt(bound);
    }

    private int orderKind() {
        int order = upTo(6);
        boolean goesWrong = order == 2 || order == 3;
        return goesWrong && random.nextInt(4) < calm ? 1 : order;
    }

    private int anyNumber() {
        int kind = random.nextInt(8);
        if (kind == 0) {
            return FAR[random.nextInt(FAR.length)];
        }
        return kind == 1 ? random.nextInt() : random.nextInt(8);
    }
}
