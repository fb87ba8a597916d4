import java.io.IOException;
import java.io.InputStream;
import java.io.UncheckedIOException;
import java.util.ArrayList;
import java.util.HashMap;
import java.util.List;
import java.util.Map;

/**
 * A world whose types are real ones: JvmTypes with all that is inside it, loaded anew, so that the
 * JVM itself tells what a use starts. Its parts are public as the types come from another loader.
 */
public final class JvmWorld {
    private static final String TYPES = "JvmTypes";
    private static final Map<String, byte[]> CODE = new HashMap<>();

    /** The uses of the types of one world, by their manners. */
    public interface Uses {
        void beginWith(JvmWorld world);

        int use(int type, int manner) throws Throwable;
    }

    public static final class Thrown extends RuntimeException {
        private static final long serialVersionUID = 1L;
        public final int number;

        public Thrown(int number) {
            this.number = number;
        }
    }

    public static final class Broken extends Error {
        private static final long serialVersionUID = 1L;
        public final int number;

        public Broken(int number) {
            this.number = number;
        }
    }

    public final List<Integer> events = new ArrayList<>();
    private final List<List<int[]>> programs;
    private final Uses uses;
    int answer;
    int number;

    JvmWorld(List<List<int[]>> programs) throws ReflectiveOperationException {
        this.programs = programs;
        Class<?> types = Class.forName(TYPES, true, new Loader());
        uses = (Uses) types.getConstructor().newInstance();
        uses.beginWith(this);
    }

    public List<int[]> program(int type) {
        return programs.get(type);
    }

    /** Uses a type: how it went, with the answer or the number of what went wrong in the fields. */
    int probe(int type, int manner) {
        number = 0;
        try {
            answer = uses.use(type, manner);
            return 0;
        } catch (Throwable wrong) {
            number = numberOf(wrong);
            return kindOf(wrong);
        }
    }

    public static int kindOf(Throwable wrong) {
        if (wrong instanceof ExceptionInInitializerError) {
            return 1;
        }
        if (wrong instanceof Broken) {
            return 2;
        }
        if (wrong instanceof NoClassDefFoundError) {
            return 3;
        }
        throw new AssertionError("no use should end so", wrong);
    }

    public static int numberOf(Throwable wrong) {
        if (wrong instanceof ExceptionInInitializerError) {
            return ((Thrown) wrong.getCause()).number;
        }
        return wrong instanceof Broken ? ((Broken) wrong).number : 0;
    }

    private static final class Loader extends ClassLoader {
        Loader() {
            super(JvmWorld.class.getClassLoader());
        }

        @Override
        protected Class<?> loadClass(String name, boolean resolve) throws ClassNotFoundException {
            if (!name.startsWith(TYPES)) {
                return super.loadClass(name, resolve);
            }
            Class<?> known = findLoadedClass(name);
            if (known != null) {
                return known;
            }
            byte[] code = CODE.computeIfAbsent(name, Loader::read);
            return defineClass(name, code, 0, code.length);
        }

        private static byte[] read(String name) {
            try (InputStream in = JvmWorld.class.getResourceAsStream(name + ".class")) {
                return in.readAllBytes();
            } catch (IOException e) {
                throw new UncheckedIOException(e);
            }
        }
    }
}
