import java.lang.invoke.MethodHandles;
import java.lang.invoke.MethodType;
import java.util.List;

/** The document's eight types as real ones, and the uses of them as the compiler writes them. */
public final class JvmTypes implements JvmWorld.Uses {
    private static final String[] NAMES = {
        "Root", "Middle", "Leaf", "Solo", "Kid", "Firm", "Loose", "Plain"
    };
    private static JvmWorld world;

    static class Root {
        static final int CONSTANT = 500;
        static int value = initialize(0);

        static int call() {
            return value + 1;
        }

        static int callOfRoot() {
            return value + 1;
        }
    }

    static class Middle extends Root {
        static final int CONSTANT = 501;
        static int value = initialize(1);

        static int call() {
            return value + 1;
        }
    }

    static class Leaf extends Middle implements Firm, Loose {
        static final int CONSTANT = 502;
        static int value = initialize(2);

        static int call() {
            return value + 1;
        }
    }

    static class Solo implements Plain {
        static final int CONSTANT = 503;
        static int value = initialize(3);

        static int call() {
            return value + 1;
        }
    }

    static class Kid extends Solo implements Firm {
        static final int CONSTANT = 504;
        static int value = initialize(4);

        static int call() {
            return value + 1;
        }
    }

    interface Firm {
        int CONSTANT = 505;
        int value = initialize(5);

        static int call() {
            return value + 1;
        }

        default int byDefault() {
            return 1;
        }
    }

    interface Loose extends Firm {
        int CONSTANT = 506;
        int value = initialize(6);

        static int call() {
            return value + 1;
        }
    }

    interface Plain {
        int CONSTANT = 507;
        int value = initialize(7);

        static int call() {
            return value + 1;
        }
    }

    private static int initialize(int type) {
        world.events.add(100 + type);
        run(world.program(type), 0);
        return 10 * type + world.events.size();
    }

    private static void run(List<int[]> program, int from) {
        for (int i = from; i < program.size(); i++) {
            int number = program.get(i)[1];
            if (program.get(i)[0] == 5) {
                try {
                    run(program, i + 1);
                } finally {
                    world.events.add(number);
                }
                return;
            }
            obey(program.get(i)[0], number);
        }
    }

    private static void obey(int order, int number) {
        switch (order) {
            case 0:
                world.events.add(number);
                break;
            case 1:
                world.events.add(read(number & 7));
                break;
            case 2:
                throw new JvmWorld.Thrown(number);
            case 3:
                throw new JvmWorld.Broken(number);
            case 4:
                world.events.add(tried(number & 7));
                break;
            default:
                throw new AssertionError("no order " + order);
        }
    }

    private static int tried(int type) {
        try {
            return read(type);
        } catch (Error wrong) {
            return 1000 + 100 * JvmWorld.kindOf(wrong) + (JvmWorld.numberOf(wrong) & 63);
        }
    }

    @Override
    public void beginWith(JvmWorld newWorld) {
        world = newWorld;
    }

    @Override
    public int use(int type, int manner) throws Throwable {
        switch (manner) {
            case 0: return make(type);
            case 1: return call(type);
            case 2: return read(type);
            case 3: return write(type);
            case 4: return constant(type);
            case 5: return row(type);
            case 6: return lookUp(type, false) == null ? 0 : 1;
            case 7: return lookUp(type, true) == null ? 0 : 1;
            case 8: return (int) lookUp(type, false).getDeclaredMethod("call").invoke(null);
            case 9: return (int) MethodHandles.lookup()
                .findStatic(lookUp(type, false), "call", MethodType.methodType(int.class)).invokeExact();
            case 10: return Leaf.callOfRoot();
            case 11: return isOne(null, type) ? 1 : 0;
            case 12: return lookUp(type, false).getDeclaredConstructor().newInstance() == null ? 0 : 1;
            case 13: return (int) MethodHandles.lookup()
                .findStaticGetter(lookUp(type, false), "value", int.class).invokeExact();
            default: throw new AssertionError("no manner " + manner);
        }
    }

    private static Class<?> lookUp(int type, boolean starting) throws ClassNotFoundException {
        return Class.forName("JvmTypes$" + NAMES[type], starting, JvmTypes.class.getClassLoader());
    }

    private static int make(int type) {
        Object thing;
        switch (type) {
            case 0: thing = new Root(); break;
            case 1: thing = new Middle(); break;
            case 2: thing = new Leaf(); break;
            case 3: thing = new Solo(); break;
            default: thing = new Kid(); break;
        }
        return thing == null ? 0 : 1;
    }

    private static int call(int type) {
        switch (type) {
            case 0: return Root.call();
            case 1: return Middle.call();
            case 2: return Leaf.call();
            case 3: return Solo.call();
            case 4: return Kid.call();
            case 5: return Firm.call();
            case 6: return Loose.call();
            default: return Plain.call();
        }
    }

    private static int read(int type) {
        switch (type) {
            case 0: return Root.value;
            case 1: return Middle.value;
            case 2: return Leaf.value;
            case 3: return Solo.value;
            case 4: return Kid.value;
            case 5: return Firm.value;
            case 6: return Loose.value;
            default: return Plain.value;
        }
    }

    private static int write(int type) {
        switch (type) {
            case 0: return Root.value = 7;
            case 1: return Middle.value = 7;
            case 2: return Leaf.value = 7;
            case 3: return Solo.value = 7;
            default: return Kid.value = 7;
        }
    }

    private static int constant(int type) {
        switch (type) {
            case 0: return Root.CONSTANT;
            case 1: return Middle.CONSTANT;
            case 2: return Leaf.CONSTANT;
            case 3: return Solo.CONSTANT;
            case 4: return Kid.CONSTANT;
            case 5: return Firm.CONSTANT;
            case 6: return Loose.CONSTANT;
            default: return Plain.CONSTANT;
        }
    }

    private static int row(int type) {
        switch (type) {
            case 0: return new Root[3].length;
            case 1: return new Middle[3].length;
            case 2: return new Leaf[3].length;
            case 3: return new Solo[3].length;
            case 4: return new Kid[3].length;
            case 5: return new Firm[3].length;
            case 6: return new Loose[3].length;
            default: return new Plain[3].length;
        }
    }

    private static boolean isOne(Object thing, int type) {
        switch (type) {
            case 0: return thing instanceof Root;
            case 1: return thing instanceof Middle;
            case 2: return thing instanceof Leaf;
            case 3: return thing instanceof Solo;
            case 4: return thing instanceof Kid;
            case 5: return thing instanceof Firm;
            case 6: return thing instanceof Loose;
            default: return thing instanceof Plain;
        }
    }
}
