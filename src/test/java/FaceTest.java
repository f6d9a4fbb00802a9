import java.lang.reflect.Constructor;
import java.lang.reflect.Field;
import java.lang.reflect.Method;
import java.lang.reflect.Modifier;
import java.util.Set;
import java.util.TreeSet;

/** The public face: what the document lists, and no other member that can be seen. */
public final class FaceTest {
    private static final Set<String> METHODS = Set.of(
            "void begin(int,int,int) IndexOutOfBoundsException IllegalArgumentException"
                    + " IllegalStateException",
            "int step(int) IndexOutOfBoundsException IllegalStateException",
            "int finish(int) IndexOutOfBoundsException IllegalStateException",
            "int result(int) IndexOutOfBoundsException NoSuchElementException",
            "int at(int) IndexOutOfBoundsException",
            "int known(int,int) IndexOutOfBoundsException",
            "int says(int,int) IndexOutOfBoundsException",
            "boolean advance() UnsupportedOperationException",
            "int scan(int) IndexOutOfBoundsException UnsupportedOperationException",
            "int block(int,int) IndexOutOfBoundsException",
            "int size()", "boolean has(int)", "int faults()", "int epoch()");

    public static void main(String[] args) {
        constants();
        theClass();
        methods();
        classesInside();
        Due.end();
    }

    private static void constants() {
        Due.is("NONE", SteppedList.NONE, -1);
        Due.is("FALSE", SteppedList.FALSE, 0);
        Due.is("TRUE", SteppedList.TRUE, 1);
        Due.is("NOROOM", SteppedList.NOROOM, 2);
        Set<String> seen = new TreeSet<>();
        for (Field f : SteppedList.class.getDeclaredFields()) {
            if (!Modifier.isPrivate(f.getModifiers())) {
                seen.add(Modifier.toString(f.getModifiers()) + " " + f.getName());
            }
        }
        Set<String> want = Set.of("public static final NONE", "public static final FALSE",
                "public static final TRUE", "public static final NOROOM");
        Due.is("fields seen: " + seen, seen.equals(want), true);
    }

    private static void theClass() {
        int m = SteppedList.class.getModifiers();
        Due.is("public final", Modifier.isPublic(m) && Modifier.isFinal(m), true);
        Constructor<?>[] all = SteppedList.class.getDeclaredConstructors();
        Due.is("constructors", all.length, 1);
        Due.is("public constructor", Modifier.isPublic(all[0].getModifiers()), true);
        Due.is("constructor with a scheme alone", all[0].getParameterCount(), 1);
        Due.is("constructor that throws", all[0].getExceptionTypes().length, 0);
    }

    private static void methods() {
        Set<String> seen = new TreeSet<>();
        Set<String> hidden = new TreeSet<>();
        for (Method m : SteppedList.class.getDeclaredMethods()) {
            if (Modifier.isPrivate(m.getModifiers())) {
                hidden.add(m.getName());
            } else {
                seen.add(signature(m));
                Due.is(m + " is public", m.getModifiers(), Modifier.PUBLIC);
            }
        }
        Due.is("methods seen: " + seen, seen.equals(METHODS), true);
        for (String s : METHODS) {
            String name = s.substring(s.indexOf(' ') + 1, s.indexOf('('));
            Due.is("a private method is called " + name, hidden.contains(name), false);
        }
    }

    private static String signature(Method m) {
        StringBuilder s = new StringBuilder(m.getReturnType() + " " + m.getName() + "(");
        for (int i = 0; i < m.getParameterCount(); i++) {
            s.append(i == 0 ? "" : ",").append(m.getParameterTypes()[i]);
        }
        s.append(")");
        for (Class<?> thrown : m.getExceptionTypes()) {
            s.append(" ").append(thrown.getSimpleName());
        }
        return s.toString();
    }

    private static void classesInside() {
        for (Class<?> inside : SteppedList.class.getDeclaredClasses()) {
            int m = inside.getModifiers();
            Due.is(inside + " is static", Modifier.isStatic(m), true);
            Due.is(inside + " is hidden", Modifier.isPublic(m) || Modifier.isProtected(m), false);
        }
    }
}
