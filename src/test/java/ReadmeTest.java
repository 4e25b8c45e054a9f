import java.io.IOException;
import java.lang.reflect.Method;
import java.lang.reflect.Modifier;
import java.nio.file.Files;
import java.nio.file.Path;
import java.util.ArrayList;
import java.util.List;
import java.util.Set;
import java.util.TreeSet;
import java.util.regex.Matcher;
import java.util.regex.Pattern;
import java.util.stream.Stream;

/**
 * What README.md shows is so: its calls are put into a program, Yours.java, which is compiled and run by README.md's
 * own commands and holds each answer against the one shown; its findings are those of the document; its way to run
 * the tests is .ci/run, and its list of the tests is whole.
 */
public final class ReadmeTest {
    private static final String PROGRAM = "src/main/java/LakeLegation.java";
    private static final String WAY = ".ci/run";
    private static final int FINDINGS = 7;
    private static final String NEW_OBJECT = "LakeLegation x = new LakeLegation();";
    private static final Pattern SHOWN = Pattern.compile("x\\.(\\w+)\\((.*)\\); +// (-?\\d+)(?:[,:] .*)?");
    private static final String YOURS_HEAD = "public final class Yours {\n"
        + "    static int wrong = 0;\n"
        + "    static void due(String call, long got, long want) {\n"
        + "        if (got != want) {\n"
        + "            wrong++;\n"
        + "            System.out.println(\"README.md: \" + call + \" answered \" + got + \", shown is \" + want);\n"
        + "        }\n"
        + "    }\n";
    private static int wrong = 0;

    public static void main(String[] args) throws IOException, InterruptedException {
        String readme = Files.readString(Path.of("README.md"));
        String use = section(readme, "Use");
        String tests = section(readme, "Tests");
        Set<String> shown = new TreeSet<>();
        int rows = runAsShown(commands(use), yours(blocks(use, "java"), shown));
        wholeFaceMustBeShown(shown);
        findingsMustBeTheDocuments(use);
        must(commands(tests).equals(List.of(WAY)), "README.md runs the tests in another way: " + commands(tests));
        must(Files.isExecutable(Path.of(WAY)), WAY + " can't be run");
        listedMustBeThere(tests);
        System.out.println(rows + " calls of README.md, " + wrong + " faults");
        if (wrong != 0) {
            System.exit(1);
        }
    }

    private static void must(boolean so, String what) {
        if (!so) {
            wrong++;
            System.out.println(what);
        }
    }

    private static String section(String readme, String title) {
        int from = readme.indexOf("\n## " + title + "\n");
        must(from >= 0, "README.md has no section " + title);
        if (from < 0) {
            return "";
        }
        int to = readme.indexOf("\n## ", from + 1);
        return readme.substring(from, to < 0 ? readme.length() : to);
    }

    private static List<String> blocks(String section, String language) {
        List<String> found = new ArrayList<>();
        Matcher m = Pattern.compile("(?s)```" + language + "\n(.*?)```").matcher(section);
        while (m.find()) {
            found.add(m.group(1));
        }
        return found;
    }

    private static List<String> commands(String section) {
        List<String> lines = new ArrayList<>();
        for (String block : blocks(section, "sh")) {
            lines.addAll(block.lines().toList());
        }
        return lines;
    }

    /** The program that makes the shown calls, a method for each block; the names of the calls come to shown. */
    private static String yours(List<String> blocks, Set<String> shown) {
        StringBuilder methods = new StringBuilder();
        StringBuilder calls = new StringBuilder();
        for (int b = 0; b < blocks.size(); b++) {
            methods.append("    static void block").append(b).append("() {\n");
            for (String line : blocks.get(b).lines().toList()) {
                methods.append("        ").append(checked(line, shown)).append('\n');
            }
            methods.append("    }\n");
            calls.append("        block").append(b).append("();\n");
        }
        return YOURS_HEAD + methods + "    public static void main(String[] args) {\n" + calls
            + "        System.exit(wrong == 0 ? 0 : 1);\n    }\n}\n";
    }

    private static String checked(String line, Set<String> shown) {
        Matcher m = SHOWN.matcher(line);
        if (m.matches()) {
            shown.add(m.group(1));
            String call = "x." + m.group(1) + "(" + m.group(2) + ")";
            return "due(\"" + call + "\", " + call + ", " + m.group(3) + "L);";
        }
        must(line.equals(NEW_OBJECT), "README.md shows no answer: " + line);
        return line;
    }

    /** How many calls were made; README.md's commands are run where they find the program and Yours.java alone. */
    private static int runAsShown(List<String> commands, String yours) throws IOException, InterruptedException {
        Path place = Files.createTempDirectory("readme");
        try {
            Files.createDirectories(place.resolve(PROGRAM).getParent());
            Files.copy(Path.of(PROGRAM), place.resolve(PROGRAM));
            Files.writeString(place.resolve("Yours.java"), yours);
            must(!commands.isEmpty(), "README.md doesn't say how to compile and run");
            for (String command : commands) {
                Process run = new ProcessBuilder("sh", "-c", command).directory(place.toFile()).inheritIO().start();
                must(run.waitFor() == 0, "README.md: fails: " + command);
            }
            must(Files.exists(place.resolve("out/Yours.class")), "README.md's commands don't compile Yours.java");
        } finally {
            remove(place);
        }
        return yours.split("due\\(\"x", -1).length - 1;
    }

    private static void remove(Path place) throws IOException {
        try (Stream<Path> all = Files.walk(place)) {
            for (Path path : all.sorted((a, b) -> b.compareTo(a)).toList()) {
                Files.delete(path);
            }
        }
    }

    private static void wholeFaceMustBeShown(Set<String> shown) {
        for (Method m : LakeLegation.class.getDeclaredMethods()) {
            must(!Modifier.isPublic(m.getModifiers()) || shown.contains(m.getName()),
                "README.md doesn't show " + m.getName());
        }
    }

    private static void findingsMustBeTheDocuments(String use) throws IOException {
        String document = Files.readString(Path.of("../shared/DOC.md"));
        Matcher m = Pattern.compile("\n\\| ([A-Z]+):[^|]*\\| (-\\d+) \\| `status\\((\\d+)\\)` \\|").matcher(use);
        int found = 0;
        while (m.find()) {
            String told = m.group(2) + " " + m.group(1);
            must(document.contains(told), "README.md: the document has no " + told);
            must(Long.parseLong(m.group(2)) == -1000000001L - found && Integer.parseInt(m.group(3)) == found,
                "README.md: not in the order of the document: " + m.group(1));
            found++;
        }
        must(found == FINDINGS, "README.md tells " + found + " findings");
    }

    /** The tests that README.md names are those that .ci/run runs. */
    private static void listedMustBeThere(String tests) throws IOException {
        Set<String> listed = new TreeSet<>();
        Matcher m = Pattern.compile("`(\\w+Test)`").matcher(tests);
        while (m.find()) {
            listed.add(m.group(1));
        }
        Set<String> there = new TreeSet<>();
        try (Stream<Path> files = Files.list(Path.of("src/test/java"))) {
            for (Path file : files.toList()) {
                String name = file.getFileName().toString();
                if (name.endsWith("Test.java")) {
                    there.add(name.substring(0, name.length() - ".java".length()));
                }
            }
        }
        must(listed.equals(there), "README.md lists " + listed + ", there are " + there);
    }
}
