import java.lang.reflect.InvocationTargetException;
import java.lang.reflect.Method;
import java.util.ArrayList;
import java.util.Arrays;
import java.util.HashMap;
import java.util.List;
import java.util.Map;

/** Calls on one new object of the program, by the name of the call; they are kept, so that a twin can be made. */
final class Calls {
    private static final Map<String, Method> METHODS = new HashMap<>();
    private final LakeLegation program = new LakeLegation();
    private final List<String> names = new ArrayList<>();
    private final List<long[]> arguments = new ArrayList<>();

    static {
        for (Method m : LakeLegation.class.getDeclaredMethods()) {
            if (java.lang.reflect.Modifier.isPublic(m.getModifiers())) {
                METHODS.put(m.getName(), m);
            }
        }
    }

    long answer(String name, long... a) {
        names.add(name);
        arguments.add(a);
        Object[] given = new Object[a.length];
        for (int i = 0; i < a.length; i++) {
            if (isLong(name, i)) {
                given[i] = a[i];
            } else {
                given[i] = (int) a[i];
            }
        }
        try {
            return ((Number) METHODS.get(name).invoke(program, given)).longValue();
        } catch (InvocationTargetException thrown) {
            throw new AssertionError(name + Arrays.toString(a) + " threw", thrown.getCause());
        } catch (IllegalAccessException refused) {
            throw new AssertionError(name, refused);
        }
    }

    /** How many calls the object has had. */
    int made() {
        return names.size();
    }

    /** A new object that has had the first so many of the calls of this one. */
    Calls twin(int first) {
        Calls twin = new Calls();
        for (int i = 0; i < first; i++) {
            twin.answer(names.get(i), arguments.get(i));
        }
        return twin;
    }

    /** The one argument of the face that is not an int. */
    static boolean isLong(String name, int argument) {
        return name.equals("write") && argument == 2;
    }

    /** The text fed to the tape. */
    void feed(String text) {
        for (int at = 0; at < text.length(); at += 4) {
            int n = Math.min(4, text.length() - at);
            int bytes = 0;
            for (int i = 0; i < n; i++) {
                bytes = bytes << 8 | text.charAt(at + i);
            }
            answer("feed", bytes, n);
        }
    }

    /** The text fed to the tape, and told. */
    long tell(String text) {
        feed(text);
        return answer("text");
    }
}
