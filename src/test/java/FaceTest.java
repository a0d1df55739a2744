import java.lang.reflect.Field;
import java.lang.reflect.Member;
import java.lang.reflect.Method;
import java.lang.reflect.Modifier;
import java.util.Arrays;
import java.util.Set;
import java.util.TreeSet;

/** The class has the document's face and no other member that is not private (LANGUAGE.md, rule 1). */
public final class FaceTest {
    private static final String NONE = "NoSuchElementException";
    private static final String ARGUMENT = "IllegalArgumentException";
    private static final String STATE = "IllegalStateException";
    private static final String ROOM = "UnsupportedOperationException";
    private static final String DIVISOR = "ArithmeticException";

    public static void main(String[] args) {
        Checks t = new Checks();
        Set<String> due = new TreeSet<>(Arrays.asList(
            face("int", "sign", 1, ARGUMENT, ROOM),
            face("int", "read", 0),
            face("int", "shipment", 3, ARGUMENT, ROOM),
            face("int", "weight", 2, NONE, ARGUMENT, DIVISOR),
            face("int", "price", 2, NONE, ARGUMENT, DIVISOR),
            face("int", "cheapest", 1, NONE),
            face("int", "parcels", 2, NONE, ARGUMENT),
            face("int", "contract", 4, ARGUMENT, ROOM),
            face("int", "book", 2, NONE, ARGUMENT, STATE, DIVISOR),
            face("int", "combine", 2, NONE, STATE),
            face("int", "invoice", 2, NONE, ARGUMENT, STATE),
            face("int", "refund", 2, NONE, ARGUMENT, STATE),
            face("int", "differ", 1, ARGUMENT),
            face("int", "currency", 3, ARGUMENT, ROOM),
            face("long", "converted", 2, ARGUMENT),
            face("int", "told", 2, NONE, ARGUMENT),
            face("int", "count", 1)));
        Set<String> got = new TreeSet<>();
        Set<String> publicNames = new TreeSet<>();
        for (Method m : RateBreaks.class.getDeclaredMethods()) {
            if (isVisible(m)) {
                got.add(faceOf(m));
                publicNames.add(m.getName());
            }
        }
        t.same("the face", got.toString(), due.toString());
        checkHidden(t, publicNames);
        t.due("public and final", RateBreaks.class.getModifiers(), Modifier.PUBLIC | Modifier.FINAL);
        t.due("constructors", RateBreaks.class.getDeclaredConstructors().length, 1);
        t.due("the constructor's parameters", RateBreaks.class.getConstructors()[0].getParameterCount(), 0);
        t.finish();
    }

    private static void checkHidden(Checks t, Set<String> publicNames) {
        for (Field f : RateBreaks.class.getDeclaredFields()) {
            if (!Modifier.isPrivate(f.getModifiers())) {
                t.complain("the field " + f.getName() + " is not private");
            }
        }
        for (Method m : RateBreaks.class.getDeclaredMethods()) {
            if (!isVisible(m) && publicNames.contains(m.getName())) {
                t.complain("a private method bears the public name " + m.getName());
            }
        }
        for (Class<?> inside : RateBreaks.class.getDeclaredClasses()) {
            for (Method m : inside.getDeclaredMethods()) {
                if (Modifier.isPrivate(m.getModifiers()) && publicNames.contains(m.getName())) {
                    t.complain(inside.getSimpleName() + " has a private method of the public name " + m.getName());
                }
            }
        }
    }

    private static boolean isVisible(Member m) {
        return !m.isSynthetic() && !Modifier.isPrivate(m.getModifiers());
    }

    private static String face(String type, String name, int parameters, String... exceptions) {
        return "public " + type + " " + name + " " + parameters + " " + Arrays.asList(exceptions);
    }

    private static String faceOf(Method m) {
        String[] exceptions = new String[m.getExceptionTypes().length];
        for (int i = 0; i < exceptions.length; i++) {
            exceptions[i] = m.getExceptionTypes()[i].getSimpleName();
        }
        String type = m.getReturnType().getSimpleName();
        for (Class<?> parameter : m.getParameterTypes()) {
            if (parameter != int.class) {
                return "with another parameter than int: " + m;
            }
        }
        String shown = face(type, m.getName(), m.getParameterCount(), exceptions);
        return m.getModifiers() == Modifier.PUBLIC ? shown : "not just " + shown;
    }
}
