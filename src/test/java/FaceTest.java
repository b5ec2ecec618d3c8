import java.lang.reflect.Constructor;
import java.lang.reflect.Field;
import java.lang.reflect.Method;
import java.lang.reflect.Modifier;
import java.util.Arrays;
import java.util.List;
import java.util.TreeSet;

/** The public face: just the members of the document, and no other that can be seen from outside. */
public final class FaceTest {
    private static final List<String> METHODS = Arrays.asList(
            "put(int,int)", "core(int)", "load(int,long,int)", "told(int)", "set(int,int)", "switches(int,int)",
            "type(int)", "ask()", "run(int)", "ran(int)", "point(int,int)", "points()", "out(int)", "value(int)",
            "word(int)", "reads(int,int)", "digest()");
    private static final List<String> CONSTANTS = Arrays.asList(
            "BAD=-1", "FULL=-3", "NONE=-9", "DONE=0", "HALT=1", "CHAIN=2", "ILLEGAL=3");

    private FaceTest() {
    }

    public static void main(String[] args) throws IllegalAccessException {
        Class<?> face = SignedCore.class;
        same("class", face.getModifiers() & (Modifier.PUBLIC | Modifier.FINAL), Modifier.PUBLIC | Modifier.FINAL);
        methods(face);
        fields(face);
        Constructor<?>[] made = face.getDeclaredConstructors();
        same("constructors", made.length, 1);
        same("public constructor", made[0].getModifiers(), Modifier.PUBLIC);
        same("constructor's parameters", made[0].getParameterCount(), 0);
        Check.finish();
    }

    private static void same(String what, long got, long want) {
        Check.due(what, got, want);
    }

    private static void methods(Class<?> face) {
        TreeSet<String> seen = new TreeSet<>();
        TreeSet<String> hidden = new TreeSet<>();
        for (Method m : face.getDeclaredMethods()) {
            if (Modifier.isPrivate(m.getModifiers())) {
                hidden.add(m.getName());
                continue;
            }
            seen.add(signature(m));
            same(m.getName() + " is public, not static", m.getModifiers(), Modifier.PUBLIC);
            same(m.getName() + " answers int", m.getReturnType() == int.class ? 1 : 0, 1);
        }
        same("methods " + seen, seen.equals(new TreeSet<>(METHODS)) ? 1 : 0, 1);
        for (String m : METHODS) {
            String name = m.substring(0, m.indexOf('('));
            same("a private method named " + name, hidden.contains(name) ? 1 : 0, 0);
        }
    }

    private static String signature(Method m) {
        StringBuilder text = new StringBuilder(m.getName()).append('(');
        for (Class<?> p : m.getParameterTypes()) {
            if (text.charAt(text.length() - 1) != '(') {
                text.append(',');
            }
            text.append(p.getName());
        }
        return text.append(')').toString();
    }

    private static void fields(Class<?> face) throws IllegalAccessException {
        int constants = Modifier.PUBLIC | Modifier.STATIC | Modifier.FINAL;
        TreeSet<String> seen = new TreeSet<>();
        for (Field f : face.getDeclaredFields()) {
            int is = f.getModifiers();
            if (Modifier.isStatic(is)) {
                same(f.getName() + " is final", Modifier.isFinal(is) ? 1 : 0, 1);
            }
            if (!Modifier.isPrivate(is)) {
                same(f.getName() + " is a public constant", is, constants);
                seen.add(f.getName() + "=" + f.getInt(null));
            }
        }
        same("constants " + seen, seen.equals(new TreeSet<>(CONSTANTS)) ? 1 : 0, 1);
    }
}
