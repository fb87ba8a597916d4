import java.lang.reflect.Constructor;
import java.lang.reflect.Field;
import java.lang.reflect.Member;
import java.lang.reflect.Method;
import java.lang.reflect.Modifier;
import java.util.ArrayList;
import java.util.Arrays;
import java.util.Collections;
import java.util.List;

/** The class shows the face of the document and nothing else. */
public final class FaceTest {
    private static final String[] FACE = {
        "constructor()",
        "field ANSWERED = 0",
        "field BROKEN = 2",
        "field LOST = 3",
        "field REFUSED = -1",
        "field WRAPPED = 1",
        "int answer()",
        "int build(int)",
        "int event(int, int)",
        "int events(int)",
        "int noOrders(int)",
        "int order(int, int, int)",
        "int probe(int, int, int)",
        "int wrong()",
    };

    public static void main(String[] args) throws Exception {
        Due due = new Due("FaceTest");
        List<String> shown = shown();
        due.holds("the face is " + Arrays.asList(FACE) + ", not " + shown, shown.equals(Arrays.asList(FACE)));
        due.holds("the class is public and final",
            StartupProbes.class.getModifiers() == (Modifier.PUBLIC | Modifier.FINAL));
        namesOfPublicMethodsAreNotUsedTwice(due);
        due.end();
    }

    private static List<String> shown() throws Exception {
        List<String> shown = new ArrayList<>();
        for (Constructor<?> c : StartupProbes.class.getDeclaredConstructors()) {
            if (isShown(c)) {
                shown.add("constructor" + parameters(c.getParameterTypes()));
            }
        }
        for (Field f : StartupProbes.class.getDeclaredFields()) {
            if (isShown(f)) {
                shown.add("field " + f.getName() + " = " + f.getInt(null));
            }
        }
        for (Method m : StartupProbes.class.getDeclaredMethods()) {
            if (isShown(m)) {
                shown.add(m.getReturnType() + " " + m.getName() + parameters(m.getParameterTypes()));
            }
        }
        Collections.sort(shown);
        return shown;
    }

    private static boolean isShown(Member member) {
        return !Modifier.isPrivate(member.getModifiers());
    }

    private static String parameters(Class<?>[] types) {
        String row = Arrays.toString(types);
        return "(" + row.substring(1, row.length() - 1) + ")";
    }

    private static void namesOfPublicMethodsAreNotUsedTwice(Due due) {
        for (Method m : StartupProbes.class.getDeclaredMethods()) {
            for (Method other : StartupProbes.class.getDeclaredMethods()) {
                if (!m.equals(other) && isShown(m)) {
                    due.holds("only one method is named " + m.getName(), !m.getName().equals(other.getName()));
                }
            }
        }
    }
}
