import java.io.IOException;
import java.nio.file.Files;
import java.nio.file.Path;
import java.util.List;
import java.util.Set;
import java.util.TreeSet;

/**
 * Rows of calls with the answers that are due, asked in turn of one object, and counted. Where a finding is due, or
 * the call only looks, or a text has a fault, twins show that nothing has changed but what may.
 */
final class Rows {
    private static final List<String> FINDINGS =
        List.of("BEYOND", "FULL", "KIND", "NONE", "STATE", "MISSING", "SIZE");
    private static final Set<String> LOOKS = Set.of("rainOf", "now", "of", "as", "on", "then", "when", "gone", "empty",
        "bears", "best", "kind", "deep", "recall", "rank", "busiest", "read", "count", "status");
    private static final int PROMISES = 37;

    private final Set<Integer> quoted = new TreeSet<>();
    private int wrong = 0;
    private int asked = 0;
    private String title = "";
    private Calls calls = new Calls();

    /** What follows is asked of a new object. */
    void begin(String newTitle) {
        title = newTitle;
        calls = new Calls();
    }

    /** As begin, for a sentence of the document that must stand under a promise (0: under Terms). */
    void sentence(int promise, String quote) {
        begin((promise == 0 ? "Terms" : "Promise " + promise) + ", '" + quote + "'");
        quoted.add(promise);
        if (!section(promise).contains(quote)) {
            wrong("the document doesn't say so");
        }
    }

    /** Rows such as "lake 0 999 = 60" or "lake 2 0 = BEYOND". */
    void due(String... rows) {
        for (String row : rows) {
            long got = dueAlone(row);
            int finding = FINDINGS.indexOf(dueOf(row));
            if (finding >= 0) {
                judgeChange(row, Twins.changedByFinding(calls, finding));
            } else if (LOOKS.contains(row.split(" ")[0]) && got > -1000000000L) {
                judgeChange(row, Twins.changedByLook(calls));
            }
        }
    }

    /** As due, of one row, but what the call changes is not looked at. */
    long dueAlone(String row) {
        String[] call = row.split(" = ")[0].split(" ");
        long got = calls.answer(call[0], argumentsOf(call));
        int finding = FINDINGS.indexOf(dueOf(row));
        judge(row, got, finding < 0 ? Long.parseLong(dueOf(row)) : -1000000001L - finding);
        return got;
    }

    /** A text fed and told: how many items, or -1 less the place of a fault. */
    void told(String text, long want) {
        String row = "text '" + text + "' = " + want;
        judge(row, calls.tell(text), want);
        if (want < 0) {
            judgeChange(row, Twins.changedByFault(calls));
        }
    }

    void feed(String text) {
        calls.feed(text);
    }

    /** A call made so many times, whose answers are not looked at. */
    void again(int times, String row) {
        String[] call = row.split(" ");
        for (int i = 0; i < times; i++) {
            calls.answer(call[0], argumentsOf(call));
        }
    }

    /** Ends the test, with exit code 1 if an answer was wrong. */
    void end() {
        System.out.println(asked + " rows, " + wrong + " not as due");
        if (wrong != 0) {
            System.exit(1);
        }
    }

    void allPromisesMustBeQuoted() {
        for (int promise = 1; promise <= PROMISES; promise++) {
            if (!quoted.contains(promise)) {
                title = "Promise " + promise;
                wrong("no sentence of it is tested");
            }
        }
    }

    int callsMade() {
        return calls.made();
    }

    private static String dueOf(String row) {
        return row.split(" = ")[1];
    }

    private static long[] argumentsOf(String[] call) {
        long[] a = new long[call.length - 1];
        for (int i = 0; i < a.length; i++) {
            a[i] = Long.parseLong(call[i + 1]);
        }
        return a;
    }

    private void judge(String row, long got, long want) {
        asked++;
        if (got != want) {
            wrong(row + ", answered " + got);
        }
    }

    private void judgeChange(String row, String change) {
        if (!change.isEmpty()) {
            wrong(row + ", but then " + change);
        }
    }

    private void wrong(String what) {
        wrong++;
        System.out.println(title + ": " + what);
    }

    private static String section(int promise) {
        try {
            String document = Files.readString(Path.of("../shared/DOC.md"));
            int from = document.indexOf(promise == 0 ? "## Terms" : "## Promise " + promise + ":");
            int to = document.indexOf("\n## ", Math.max(0, from));
            return from < 0 ? "" : document.substring(from, to < 0 ? document.length() : to);
        } catch (IOException unreadable) {
            throw new AssertionError("../shared/DOC.md", unreadable);
        }
    }
}
