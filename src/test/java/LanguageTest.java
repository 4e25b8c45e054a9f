import java.io.IOException;
import java.lang.reflect.Constructor;
import java.lang.reflect.Field;
import java.lang.reflect.Method;
import java.lang.reflect.Modifier;
import java.nio.file.Files;
import java.nio.file.Path;
import java.util.Arrays;
import java.util.Set;
import java.util.TreeSet;
import java.util.regex.Matcher;
import java.util.regex.Pattern;

/** What of LANGUAGE.md can be seen from outside: the face, words that may not stand in the file, and the room. */
public final class LanguageTest {
    private static final String FACE = "int lake(int, int); int rain(int, int); int rainOf(int); int now(int); "
        + "int person(int); int of(int, int); int set(int, int, int); int turn(int, int); int as(int, int); "
        + "int months(int); int on(int, int); int then(int, int, int); int when(int); int gone(int); int empty(); "
        + "int bears(int); int best(int, int); int kind(int, int); int deep(int); int recall(int); "
        + "int rank(int, int); int busiest(int); int feed(int, int); int wipe(); int text(); "
        + "int sheet(int, int, int); long write(int, int, long); int copy(int, int, int, int, int); int lays(int); "
        + "int book(int); int read(int, int); int image(); int undo(); int tear(); int count(int); int status(int)";
    private static final String RULED_OUT = "\\b(throw|throws|try|catch|finally|synchronized|assert|import|package"
        + "|volatile|native|transient|goto|System\\.(?!arraycopy)\\w+|\\w+Exact)\\b|->|::|@";
    private static int wrong = 0;

    public static void main(String[] args) throws IOException {
        face();
        words(Files.readString(Path.of(args.length > 0 ? args[0] : "src/main/java/LakeLegation.java")));
        room();
        System.out.println(wrong == 0 ? "the language is kept" : wrong + " faults of language");
        if (wrong != 0) {
            System.exit(1);
        }
    }

    private static void must(boolean so, String what) {
        if (!so) {
            wrong++;
            System.out.println(what);
        }
    }

    private static void face() {
        Class<?> c = LakeLegation.class;
        must(Modifier.isPublic(c.getModifiers()) && Modifier.isFinal(c.getModifiers()), "the class: public and final");
        Set<String> open = new TreeSet<>();
        Set<String> closed = new TreeSet<>();
        for (Method m : c.getDeclaredMethods()) {
            if (Modifier.isPublic(m.getModifiers())) {
                String types = Arrays.toString(m.getParameterTypes()).replaceAll("[\\[\\]]", "");
                open.add(m.getReturnType() + " " + m.getName() + "(" + types + ")");
            } else {
                must(Modifier.isPrivate(m.getModifiers()), "not private: " + m);
                closed.add(m.getName());
            }
        }
        must(open.equals(new TreeSet<>(Arrays.asList(FACE.split("; ")))), "the face is another one: " + open);
        for (Class<?> inside : c.getDeclaredClasses()) {
            must(Modifier.isStatic(inside.getModifiers()), "not static: " + inside);
            for (Method m : inside.getDeclaredMethods()) {
                closed.add(m.getName());
            }
        }
        for (String name : closed) {
            must(!FACE.contains(" " + name + "("), "bears the name of a public one: " + name);
        }
        for (Field f : c.getDeclaredFields()) {
            must(Modifier.isPrivate(f.getModifiers()), "not private: " + f);
            must(!Modifier.isStatic(f.getModifiers()) || Modifier.isFinal(f.getModifiers()), "not final: " + f);
        }
        for (Constructor<?> made : c.getDeclaredConstructors()) {
            must(Modifier.isPublic(made.getModifiers()) && made.getParameterCount() == 0, "not in the face: " + made);
        }
    }

    private static void words(String source) {
        String code = source.replaceAll("(?s)/\\*.*?\\*/|//[^\\n]*|\"[^\"\\n]*\"", " ");
        Matcher m = Pattern.compile(RULED_OUT).matcher(code);
        while (m.find()) {
            must(false, "ruled out: " + m.group());
        }
    }

    /** No call makes an object: all rows are made by the constructor. */
    private static void room() {
        com.sun.management.ThreadMXBean threads =
            (com.sun.management.ThreadMXBean) java.lang.management.ManagementFactory.getThreadMXBean();
        LakeLegation x = new LakeLegation();
        callAll(x);
        long before = threads.getThreadAllocatedBytes(Thread.currentThread().getId());
        for (int i = 0; i < 9; i++) {
            callAll(x);
        }
        long made = threads.getThreadAllocatedBytes(Thread.currentThread().getId()) - before;
        must(made < 1024, "the calls made " + made + " bytes of objects");
    }

    private static void callAll(LakeLegation x) {
        x.person(3);
        x.months(12);
        x.lake(0, 500);
        x.on(240, 1);
        x.then(0, 240, 0);
        x.when(0);
        x.gone(0);
        x.empty();
        x.bears(60);
        x.best(9, 60);
        x.kind(0, 60);
        x.deep(60);
        x.recall(60);
        x.rank(0, 60);
        x.busiest(240);
        x.feed(0x64657074, 4);
        x.feed(0x68203938, 4);
        x.text();
        x.feed(0x64657074, 4);
        x.text();
        x.sheet(0, 64, 40);
        x.sheet(1, 64, 40);
        x.write(0, 1, 5);
        x.copy(0, 0, 1, 0, 40);
        x.lays(0);
        x.book(0);
        x.read(1, 0);
        x.image();
        x.undo();
        x.tear();
        x.status(9);
    }
}
