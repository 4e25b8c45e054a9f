import java.util.ArrayList;
import java.util.List;

/** Shows what the last call of an object has changed, by twins: one that had the call, and one that hadn't. */
final class Twins {
    private static final int FINDINGS = 7;

    private Twins() {
    }

    /** What a call changed that answered a finding (by its number, 0 to 6), status() left out; empty if nothing. */
    static String changedByFinding(Calls asked, int finding) {
        return changed(asked, finding, false);
    }

    /** What a call changed that only looks; empty if nothing. */
    static String changedByLook(Calls asked) {
        return changed(asked, -1, false);
    }

    /** What a text with a fault changed, but that the tape is empty; empty if nothing. */
    static String changedByFault(Calls asked) {
        return changed(asked, -1, true);
    }

    private static String changed(Calls asked, int finding, boolean wipes) {
        for (Probe probe : Probe.values()) {
            List<String> with = seen(asked.twin(asked.made()), probe, -1);
            Calls spared = asked.twin(asked.made() - 1);
            if (wipes) {
                spared.answer("wipe");
            }
            List<String> without = seen(spared, probe, finding);
            String difference = difference(with, without);
            if (!difference.isEmpty()) {
                return difference;
            }
        }
        return "";
    }

    private static String difference(List<String> with, List<String> without) {
        for (int i = 0; i < Math.min(with.size(), without.size()); i++) {
            if (!with.get(i).equals(without.get(i))) {
                return with.get(i) + " and not " + without.get(i);
            }
        }
        return with.size() == without.size() ? "" : with.size() + " rows and not " + without.size();
    }

    /** Looking at the tape, at the image and at the sheets spoils them: each probe has twins of its own. */
    private enum Probe { FINDINGS, STATE, TAPE, IMAGE, SHEETS }

    private static List<String> seen(Calls twin, Probe probe, int findingMore) {
        List<String> seen = new ArrayList<>();
        switch (probe) {
            case FINDINGS -> lookAtFindings(twin, seen, findingMore);
            case STATE -> lookAtState(twin, seen);
            case TAPE -> {
                look(twin, seen, "text");
                lookAtState(twin, seen);
            }
            case IMAGE -> {
                look(twin, seen, "undo");
                lookAtState(twin, seen);
            }
            default -> lookAtSheets(twin, seen);
        }
        if (twin.made() > 512) {
            throw new AssertionError("a run too long for twins: what a call behind the 512th answers is free");
        }
        return seen;
    }

    private static void lookAtFindings(Calls twin, List<String> seen, int findingMore) {
        for (int which = -1; which < FINDINGS; which++) {
            boolean isOneMore = findingMore >= 0 && (which == -1 || which == findingMore);
            seen.add("status " + which + " = " + (twin.answer("status", which) + (isOneMore ? 1 : 0)));
        }
    }

    private static void lookAtState(Calls twin, List<String> seen) {
        for (int what = 0; what < 4; what++) {
            look(twin, seen, "count", what);
        }
        for (int what = 0; what < 7; what++) {
            look(twin, seen, "now", what);
        }
        for (int place = 0; place < 12; place++) {
            look(twin, seen, "rainOf", place);
        }
        for (int person = 0; person < 8; person++) {
            for (int what = 0; what < 8; what++) {
                look(twin, seen, "of", person, what);
            }
        }
    }

    private static void lookAtSheets(Calls twin, List<String> seen) {
        for (int s = 0; s < 4; s++) {
            // A number that is another one in 8, 16 and 64 bits.
            look(twin, seen, "write", s, 0, 0x123456789L);
            long answer = 0;
            for (int i = 0; i < 41 && answer != -1000000006L; i++) {
                answer = look(twin, seen, "write", s, i, 0);
            }
        }
    }

    private static long look(Calls twin, List<String> seen, String name, long... a) {
        long answer = twin.answer(name, a);
        StringBuilder row = new StringBuilder(name);
        for (long argument : a) {
            row.append(' ').append(argument);
        }
        seen.add(row.append(" = ").append(answer).toString());
        return answer;
    }
}
