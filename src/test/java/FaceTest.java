import java.lang.reflect.Constructor;
import java.lang.reflect.Field;
import java.lang.reflect.Method;
import java.lang.reflect.Modifier;
import java.util.Set;
import java.util.TreeSet;

/** The public face: what the document lists, and no other member that can be seen. */
public final class FaceTest {
    private static final Set<String> METHODS = Set.of(
            "void begin(int,int,int)", "int step(int)", "int finish(int)", "int result(int)",
            "int at(int)", "int known(int,int)", "int says(int,int)", "boolean advance()",
            "int scan(int)", "int block(int,int)", "int size()", "boolean has(int)",
            "int faults()", "int epoch()");

    public static void main(String[] args) {
        constants();
        theClass();
        methods();
        Due.end();
    }

    private static void constants() {
        Due.is("NONE", SteppedList.NONE, -1);
        Due.is("FALSE", SteppedList.FALSE, 0);
        Due.is("TRUE", SteppedList.TRUE, 1);
        Due.is("NOROOM", SteppedList.NOROOM, 2);
        Set<String> seen = new TreeSet<>();
        for (Field f : SteppedList.class.getDeclaredFields()) {
            if (!Modifier.isPrivate(f.getModifiers())) {
                seen.add(f.getName());
            }
        }
        Set<String> want = Set.of("NONE", "FALSE", "TRUE", "NOROOM");
        Due.is("fields seen: " + seen, seen.equals(want), true);
    }

    private static void theClass() {
        int m = SteppedList.class.getModifiers();
        Due.is("public final", Modifier.isPublic(m) && Modifier.isFinal(m), true);
        Constructor<?>[] all = SteppedList.class.getDeclaredConstructors();
        Due.is("constructors", all.length, 1);
        Due.is("public constructor", Modifier.isPublic(all[0].getModifiers()), true);
    }

    private static void methods() {
        Set<String> seen = new TreeSet<>();
        Set<String> hidden = new TreeSet<>();
        for (Method m : SteppedList.class.getDeclaredMethods()) {
            if (Modifier.isPrivate(m.getModifiers())) {
                hidden.add(m.getName());
            } else {
                seen.add(signature(m));
            }
        }
        Due.is("methods seen: " + seen, seen.equals(METHODS), true);
        for (String s : METHODS) {
            String name = s.substring(s.indexOf(' ') + 1, s.indexOf('('));
            Due.is("a private method is called " + name, hidden.contains(name), false);
        }
    }

    private static String signature(Method m) {
        StringBuilder s = new StringBuilder(m.getReturnType() + " " + m.getName() + "(");
        for (int i = 0; i < m.getParameterCount(); i++) {
            s.append(i == 0 ? "" : ",").append(m.getParameterTypes()[i]);
        }
        return s.append(")").toString();
    }
}
