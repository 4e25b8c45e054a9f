import java.io.IOException;
import java.lang.reflect.Constructor;
import java.lang.reflect.Field;
import java.lang.reflect.Method;
import java.lang.reflect.Modifier;
import java.nio.file.Files;
import java.nio.file.Path;
import java.util.ArrayList;
import java.util.Arrays;
import java.util.List;
import java.util.Set;
import java.util.TreeSet;
import java.util.regex.Matcher;
import java.util.regex.Pattern;

/** What of LANGUAGE.md can be seen from outside: the face, words that may not stand in the file, and the room. */
public final class LanguageTest {
    private static final int PROMISED_CALLS = 36;
    private static final int HEADINGS = 7;
    private static final int MOST_CLASSES = 12;
    private static final int MOST_FIELDS = 20;
    private static final int MOST_PARAMETERS = 7;
    private static final String RULED_OUT = "\\b(throw|throws|try|catch|finally|synchronized|assert|import|package"
        + "|volatile|native|transient|goto|System\\.(?!arraycopy)\\w+|\\w+Exact)\\b|->|::|@";
    private static int wrong = 0;

    public static void main(String[] args) throws IOException {
        String source = Files.readString(Path.of(args.length > 0 ? args[0] : "src/main/java/LakeLegation.java"));
        String document = Files.readString(Path.of("../shared/DOC.md"));
        face(facePromised(document, source));
        headings(document, source);
        limits();
        words(source);
        room();
        System.out.println(wrong == 0 ? "the language is kept" : wrong + " faults of language");
        if (wrong != 0) {
            System.exit(1);
        }
    }

    private static void must(boolean so, String what) {
        if (!so) {
            wrong++;
            System.out.println(what);
        }
    }

    /** The calls of the document's face, by their types; each must be declared in the program as it is there. */
    private static Set<String> facePromised(String document, String source) {
        Set<String> promised = new TreeSet<>();
        Matcher m = Pattern.compile("\n    (public (int|long) (\\w+)\\((.*)\\));").matcher(document);
        while (m.find()) {
            must(source.contains("\n    " + m.group(1) + " {\n"), "not as in the document's face: " + m.group(1));
            promised.add(m.group(2) + " " + m.group(3) + "(" + m.group(4).replaceAll(" \\w+(?=,|$)", "") + ")");
        }
        must(promised.size() == PROMISED_CALLS, "the document's face has " + promised.size() + " calls");
        return promised;
    }

    /** 'Ahead of the calls .. the interface says': the calls stand below that heading, and no others do. */
    private static void headings(String document, String source) {
        Matcher m = Pattern.compile("Ahead of the calls (.*) the interface says: (---- [a-z ]+)\\.").matcher(document);
        int found = 0;
        while (m.find()) {
            found++;
            int from = source.indexOf("\n    // " + m.group(2) + "\n");
            int to = source.indexOf("\n    // ---- ", from + 1);
            must(from >= 0 && to >= 0, "no heading: " + m.group(2));
            if (from >= 0 && to >= 0) {
                String below = String.join(", ", callsIn(source.substring(from, to)));
                must(below.equals(m.group(1).replace("`", "")), "below " + m.group(2) + ": " + below);
            }
        }
        must(found == HEADINGS, "the document has " + found + " headings");
    }

    private static List<String> callsIn(String part) {
        List<String> names = new ArrayList<>();
        Matcher m = Pattern.compile("\n    public \\w+ (\\w+)\\(").matcher(part);
        while (m.find()) {
            names.add(m.group(1));
        }
        return names;
    }

    private static void face(Set<String> promised) {
        Class<?> c = LakeLegation.class;
        must(Modifier.isPublic(c.getModifiers()) && Modifier.isFinal(c.getModifiers()), "the class: public and final");
        Set<String> open = new TreeSet<>();
        Set<String> closed = new TreeSet<>();
        for (Method m : c.getDeclaredMethods()) {
            if (Modifier.isPublic(m.getModifiers())) {
                String types = Arrays.toString(m.getParameterTypes()).replaceAll("[\\[\\]]", "");
                open.add(m.getReturnType() + " " + m.getName() + "(" + types + ")");
            } else {
                must(Modifier.isPrivate(m.getModifiers()), "not private: " + m);
                closed.add(m.getName());
            }
        }
        must(open.equals(promised), "the face is another one: " + open);
        for (Class<?> inside : c.getDeclaredClasses()) {
            must(Modifier.isStatic(inside.getModifiers()), "not static: " + inside);
            for (Method m : inside.getDeclaredMethods()) {
                closed.add(m.getName());
            }
        }
        for (String name : closed) {
            must(promised.stream().noneMatch(call -> call.contains(" " + name + "(")),
                "bears the name of a public one: " + name);
        }
        for (Field f : c.getDeclaredFields()) {
            must(Modifier.isPrivate(f.getModifiers()), "not private: " + f);
        }
        for (Constructor<?> made : c.getDeclaredConstructors()) {
            must(Modifier.isPublic(made.getModifiers()) && made.getParameterCount() == 0, "not in the face: " + made);
        }
    }

    /** Rules 5 and 11, in the class and in those inside it. */
    private static void limits() {
        List<Class<?>> all = new ArrayList<>(Arrays.asList(LakeLegation.class.getDeclaredClasses()));
        all.add(LakeLegation.class);
        must(all.size() <= MOST_CLASSES, all.size() + " classes");
        for (Class<?> c : all) {
            int fields = 0;
            for (Field f : c.getDeclaredFields()) {
                boolean isStatic = Modifier.isStatic(f.getModifiers());
                must(!isStatic || Modifier.isFinal(f.getModifiers()), "static, but not final: " + f);
                fields += isStatic ? 0 : 1;
            }
            must(fields <= MOST_FIELDS, c + " has " + fields + " fields");
            for (Method m : c.getDeclaredMethods()) {
                must(m.getParameterCount() <= MOST_PARAMETERS, "too many parameters: " + m);
            }
        }
    }

    private static void words(String source) {
        String code = source.replaceAll("(?s)/\\*.*?\\*/|//[^\\n]*|\"[^\"\\n]*\"", " ");
        Matcher m = Pattern.compile(RULED_OUT).matcher(code);
        while (m.find()) {
            must(false, "ruled out: " + m.group());
        }
    }

    /** No call makes an object: all rows are made by the constructor. */
    private static void room() {
        com.sun.management.ThreadMXBean threads =
            (com.sun.management.ThreadMXBean) java.lang.management.ManagementFactory.getThreadMXBean();
        LakeLegation x = new LakeLegation();
        callAll(x);
        long before = threads.getThreadAllocatedBytes(Thread.currentThread().getId());
        for (int i = 0; i < 9; i++) {
            callAll(x);
        }
        long made = threads.getThreadAllocatedBytes(Thread.currentThread().getId()) - before;
        must(made < 1024, "the calls made " + made + " bytes of objects");
    }

    private static void callAll(LakeLegation x) {
        x.person(3);
        x.months(12);
        x.lake(0, 500);
        x.on(240, 1);
        x.then(0, 240, 0);
        x.when(0);
        x.gone(0);
        x.empty();
        x.bears(60);
        x.best(9, 60);
        x.kind(0, 60);
        x.deep(60);
        x.recall(60);
        x.rank(0, 60);
        x.busiest(240);
        x.feed(0x64657074, 4);
        x.feed(0x68203938, 4);
        x.text();
        x.feed(0x64657074, 4);
        x.text();
        x.sheet(0, 64, 40);
        x.sheet(1, 64, 40);
        x.write(0, 1, 5);
        x.copy(0, 0, 1, 0, 40);
        x.lays(0);
        x.book(0);
        x.read(1, 0);
        x.image();
        x.undo();
        x.tear();
        x.status(9);
    }
}
