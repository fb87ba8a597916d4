import java.lang.reflect.Constructor;
import java.lang.reflect.Executable;
import java.lang.reflect.Field;
import java.lang.reflect.Member;
import java.lang.reflect.Method;
import java.lang.reflect.Modifier;
import java.util.ArrayList;
import java.util.Arrays;
import java.util.Collections;
import java.util.List;

/** "The public face": the class shows what the document writes there, as it is written, and nothing else. */
public final class FaceTest {
    private static final List<String> FACE = Arrays.asList(
        "public StartupProbes()",
        "public int answer()",
        "public int build(int)",
        "public int event(int, int)",
        "public int events(int)",
        "public int noOrders(int)",
        "public int order(int, int, int)",
        "public int probe(int, int, int)",
        "public int wrong()",
        "public static final int ANSWERED = 0",
        "public static final int BROKEN = 2",
        "public static final int LOST = 3",
        "public static final int REFUSED = -1",
        "public static final int WRAPPED = 1"
    );

    private static final Due due = new Due("FaceTest");

    public static void main(String[] args) throws Exception {
        theClass();
        List<String> shown = shown();
        due.holds("the face is " + FACE + ", not " + shown, shown.equals(FACE));
        constants();
        classesInside();
        staticFields();
        namesOfPublicMethodsAreNotUsedTwice();
        due.end();
    }

    private static void theClass() {
        Class<?> c = StartupProbes.class;
        due.holds("the class is public and final", c.getModifiers() == (Modifier.PUBLIC | Modifier.FINAL));
        due.holds("the class has no package", c.getName().equals("StartupProbes"));
        due.holds("the class extends nothing", c.getSuperclass() == Object.class);
        due.holds("the class implements nothing", c.getInterfaces().length == 0);
    }

    private static List<String> shown() throws Exception {
        List<String> shown = new ArrayList<>();
        for (Constructor<?> c : StartupProbes.class.getDeclaredConstructors()) {
            if (isShown(c)) {
                shown.add(modifiers(c) + "StartupProbes" + parameters(c));
            }
        }
        for (Field f : StartupProbes.class.getDeclaredFields()) {
            if (isShown(f)) {
                shown.add(modifiers(f) + f.getType() + " " + f.getName() + " = " + f.getInt(new StartupProbes()));
            }
        }
        for (Method m : StartupProbes.class.getDeclaredMethods()) {
            if (isShown(m)) {
                shown.add(modifiers(m) + m.getReturnType() + " " + m.getName() + parameters(m));
            }
        }
        Collections.sort(shown);
        return shown;
    }

    private static boolean isShown(Member member) {
        return !Modifier.isPrivate(member.getModifiers());
    }

    private static String modifiers(Member member) {
        String words = Modifier.toString(member.getModifiers());
        return words.isEmpty() ? "" : words + " ";
    }

    private static String parameters(Executable call) {
        String row = Arrays.toString(call.getParameterTypes());
        String thrown = call.getExceptionTypes().length == 0 ? "" : " throws";
        return "(" + row.substring(1, row.length() - 1) + ")" + thrown;
    }

    /** Their use as labels does not compile unless they are constants of the language. */
    private static void constants() {
        String[] names = {"REFUSED", "ANSWERED", "WRAPPED", "BROKEN", "LOST"};
        for (int outcome = -1; outcome <= 3; outcome++) {
            due.holds(outcome + " is " + names[outcome + 1], nameOf(outcome).equals(names[outcome + 1]));
        }
    }

    private static String nameOf(int outcome) {
        switch (outcome) {
            case StartupProbes.REFUSED:
                return "REFUSED";
            case StartupProbes.ANSWERED:
                return "ANSWERED";
            case StartupProbes.WRAPPED:
                return "WRAPPED";
            case StartupProbes.BROKEN:
                return "BROKEN";
            case StartupProbes.LOST:
                return "LOST";
            default:
                return "none of them";
        }
    }

    // ../shared/LANGUAGE.md, rule 1: "the classes inside it, which are private or package-visible and static"

    private static void classesInside() {
        for (Class<?> inside : StartupProbes.class.getDeclaredClasses()) {
            int modifiers = inside.getModifiers();
            due.holds(inside + " is static", Modifier.isStatic(modifiers));
            due.holds(inside + " is private or package-visible",
                !Modifier.isPublic(modifiers) && !Modifier.isProtected(modifiers));
        }
    }

    // ../shared/LANGUAGE.md, rule 5: "Static fields are final"

    private static void staticFields() {
        for (Field f : StartupProbes.class.getDeclaredFields()) {
            int modifiers = f.getModifiers();
            due.holds(f + " is final", !Modifier.isStatic(modifiers) || Modifier.isFinal(modifiers));
        }
    }

    // ../shared/LANGUAGE.md, rule 1: "No private method bears the name of a public one."

    private static void namesOfPublicMethodsAreNotUsedTwice() {
        for (Method m : StartupProbes.class.getDeclaredMethods()) {
            for (Method other : StartupProbes.class.getDeclaredMethods()) {
                if (!m.equals(other) && isShown(m)) {
                    due.holds("only one method is named " + m.getName(), !m.getName().equals(other.getName()));
                }
            }
        }
    }
}
