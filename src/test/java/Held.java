import java.lang.reflect.Array;
import java.lang.reflect.Field;
import java.lang.reflect.Modifier;

/** All that an object holds, as a text, so that a refused call can be seen to change nothing at all. */
final class Held {
    private Held() {
    }

    static boolean alike(SignedCore x, SignedCore y) {
        return by(x).equals(by(y));
    }

    static String by(Object holder) {
        StringBuilder text = new StringBuilder();
        try {
            tell(holder, text);
        } catch (IllegalAccessException e) {
            throw new IllegalStateException(e);
        }
        return text.toString();
    }

    private static void tell(Object holder, StringBuilder text) throws IllegalAccessException {
        for (Field f : holder.getClass().getDeclaredFields()) {
            if (Modifier.isStatic(f.getModifiers())) {
                continue;
            }
            f.setAccessible(true);
            text.append(f.getName()).append(' ');
            tellOne(f.getType(), f.get(holder), text);
        }
    }

    private static void tellOne(Class<?> type, Object held, StringBuilder text) throws IllegalAccessException {
        if (held == null || type.isPrimitive()) {
            text.append(held).append('\n');
        } else if (type.isArray()) {
            for (int i = 0; i < Array.getLength(held); i++) {
                tellOne(type.getComponentType(), Array.get(held, i), text);
            }
        } else {
            tell(held, text);
        }
    }
}
