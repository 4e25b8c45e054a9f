import java.lang.reflect.InvocationTargetException;
import java.lang.reflect.Method;
import java.util.Arrays;
import java.util.HashMap;
import java.util.Map;

/** Calls on one new object of the program, by the name of the call. */
final class Calls {
    private static final Map<String, Method> METHODS = new HashMap<>();
    private final LakeLegation program = new LakeLegation();

    static {
        for (Method m : LakeLegation.class.getDeclaredMethods()) {
            if (java.lang.reflect.Modifier.isPublic(m.getModifiers())) {
                METHODS.put(m.getName(), m);
            }
        }
    }

    long answer(String name, long... a) {
        Object[] arguments = new Object[a.length];
        for (int i = 0; i < a.length; i++) {
            if (isLong(name, i)) {
                arguments[i] = a[i];
            } else {
                arguments[i] = (int) a[i];
            }
        }
        try {
            return ((Number) METHODS.get(name).invoke(program, arguments)).longValue();
        } catch (InvocationTargetException thrown) {
            throw new AssertionError(name + Arrays.toString(a) + " threw", thrown.getCause());
        } catch (IllegalAccessException refused) {
            throw new AssertionError(name, refused);
        }
    }

    /** The one argument of the face that is not an int. */
    static boolean isLong(String name, int argument) {
        return name.equals("write") && argument == 2;
    }

    /** The text fed to the tape, and told. */
    long tell(String text) {
        for (int at = 0; at < text.length(); at += 4) {
            int n = Math.min(4, text.length() - at);
            int bytes = 0;
            for (int i = 0; i < n; i++) {
                bytes = bytes << 8 | text.charAt(at + i);
            }
            answer("feed", bytes, n);
        }
        return answer("text");
    }
}
