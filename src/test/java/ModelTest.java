import java.util.ArrayList;
import java.util.Arrays;
import java.util.List;
import java.util.Random;

/** Runs of calls drawn by a seed, each answered by the program and by the model: the answers must be the same. */
public final class ModelTest {
    private static final int RUNS = 400;
    private static final int MOST_CALLS = 512;
    // Each call with the least and the most of its arguments, as far as the document lets them go.
    private static final String[] CALLS = {
        "lake 0 0 0 999", "lake 0 0 0 60", "lake 1 1 0 99", "lake 1 1 0 20", "rain 0 11 0 99", "rain 0 11 0 20",
        "rainOf 0 11", "now 0 6", "now 0 6", "person 0 5", "person 0 5", "of 0 7 0 7", "of 0 7 0 7", "of 0 7 5 7",
        "set 0 7 1 1 0 99", "set 0 7 2 2 0 40", "set 0 7 2 2 0 99", "set 0 7 3 3 0 9999", "set 0 7 3 3 9900 9999",
        "set 0 7 4 4 0 1", "set 0 7 4 4 0 0", "turn 0 7 0 5", "as 0 7 0 5", "months 1 120", "months 1 12",
        "months 1 3", "on 0 240 0 2", "then 0 7 0 240 0 2", "when 0 1", "gone 0 7", "empty", "bears 1 60",
        "best 1 99 1 60", "kind 0 7 1 60", "deep 1 60", "recall 1 60", "rank 0 7 1 60", "busiest 0 240",
        "feed -2147483648 2147483647 1 4", "wipe", "text", "sheet 0 3 8 8 0 40", "sheet 0 3 16 16 0 40",
        "sheet 0 3 64 64 0 40", "sheet 0 3 0 0 0 40", "write 0 3 0 39 -300 300", "write 0 3 0 11 0 99",
        "write 0 3 0 39 -9223372036854775808 9223372036854775807", "copy 0 3 0 39 0 3 0 39 0 40",
        "copy 0 3 0 5 0 3 0 5 0 12", "lays 0 3", "book 0 3", "read 0 3 0 7", "image", "undo", "tear", "count 0 3",
        "status -1 6"};
    private static final String[] WORDS = {"clerk", "secretary", "envoy", "heron", "consul", "minister", "rank",
        "love", "depth", "dries", "rain", ";", "clerks", "lake", "0", "5", "11", "12", "99", "100", "999", "1000",
        "007", "00000000000000001", "99999999999999999999", ".", "A", "\u00e9", "\n"};

    private final Random random;
    private final int run;
    private final Calls program = new Calls();
    private final Model model = new Model();
    private final List<String> told = new ArrayList<>();
    private long lastDue;

    private ModelTest(int run) {
        this.run = run;
        random = new Random(7919L * run + 11);
    }

    public static void main(String[] args) {
        int runs = Integer.getInteger("runs", RUNS);
        for (int run = 0; run < runs; run++) {
            if (!new ModelTest(run).agrees()) {
                System.exit(1);
            }
        }
        System.out.println(runs + " runs agree with the model");
    }

    private boolean agrees() {
        boolean late = run % 20 == 0;
        for (int i = 0; late && i < 83; i++) {
            if (!same("months", 120)) {
                return false;
            }
        }
        int people = random.nextInt(9);
        for (int p = 0; p < people; p++) {
            if (!same("person", random.nextInt(6))) {
                return false;
            }
        }
        while (told.size() < MOST_CALLS - 90) {
            if (!step()) {
                return false;
            }
        }
        return sameAtLast();
    }

    private boolean step() {
        int kind = random.nextInt(40);
        if (kind == 0) {
            return tellText();
        }
        if (kind == 1) {
            return writeWhatOneWrites();
        }
        String[] call = CALLS[random.nextInt(CALLS.length)].split(" ");
        long[] a = new long[call.length / 2];
        for (int i = 0; i < a.length; i++) {
            a[i] = drawn(Long.parseLong(call[1 + 2 * i]), Long.parseLong(call[2 + 2 * i]));
        }
        return same(call[0], a);
    }

    private long drawn(long least, long most) {
        int way = random.nextInt(100);
        if (way < 3) {
            return least - 1;
        }
        if (way < 6) {
            return most + 1;
        }
        if (way < 7) {
            return random.nextBoolean() ? Integer.MIN_VALUE : Integer.MAX_VALUE;
        }
        if (way < 11) {
            return least;
        }
        if (way < 15) {
            return most;
        }
        if (most - least < 0) {
            return random.nextLong();
        }
        return least + Math.floorMod(random.nextLong(), most - least + 1);
    }

    private boolean tellText() {
        StringBuilder text = new StringBuilder();
        int items = 1 + random.nextInt(5);
        for (int i = 0; i < items; i++) {
            text.append(i == 0 ? "" : gap() + ";" + gap()).append(item());
        }
        text.append(gap());
        if (random.nextInt(3) == 0) {
            int at = random.nextInt(text.length() + 1);
            text.insert(at, gap() + WORDS[random.nextInt(WORDS.length)] + gap());
        }
        if (random.nextInt(6) == 0) {
            text.setLength(random.nextInt(text.length() + 1));
        }
        if (!same("wipe")) {
            return false;
        }
        String bytes = text.substring(0, Math.min(text.length(), 122));
        for (int at = 0; at < bytes.length(); ) {
            int n = Math.min(bytes.length() - at, 4);
            int number = 0;
            for (int i = 0; i < n; i++) {
                number = number << 8 | bytes.charAt(at + i);
            }
            at += n;
            if (!same("feed", number, n)) {
                return false;
            }
        }
        return same("text");
    }

    private String gap() {
        return " ".repeat(random.nextInt(3) / 2 * (1 + random.nextInt(2)));
    }

    private String item() {
        String kind = WORDS[random.nextInt(6)];
        String rank = random.nextBoolean() ? gap() + " rank" + gap() + random.nextInt(104) : "";
        String love = random.nextBoolean() ? gap() + " love" + gap() + random.nextInt(104) : "";
        switch (random.nextInt(5)) {
            case 0: return "depth" + gap() + random.nextInt(1010);
            case 1: return "dries" + gap() + random.nextInt(104);
            case 2: return "rain" + gap() + random.nextInt(13) + " " + random.nextInt(104);
            default: return kind + rank + love;
        }
    }

    // Without this the reader would hardly ever find a pair.
    private boolean writeWhatOneWrites() {
        int s = random.nextInt(4);
        int n = random.nextInt(6);
        int person = random.nextInt(8);
        if (!same("sheet", s, random.nextBoolean() ? 64 : 16, n)) {
            return false;
        }
        for (int i = 0; i < n; i++) {
            if (!same("then", person, i, 1) || !same("write", s, i, lastDue)) {
                return false;
            }
        }
        return same("read", s, person);
    }

    private boolean sameAtLast() {
        boolean same = true;
        for (int what = 0; what <= 6; what++) {
            same = same && same("now", what) && same("status", what);
        }
        for (int place = 0; place < 12; place++) {
            same = same && same("rainOf", place);
        }
        for (int person = 0; person < 8; person++) {
            same = same && same("of", person, 3) && same("of", person, 2);
        }
        return same && same("count", 1) && same("status", -1);
    }

    private boolean same(String name, long... a) {
        long got = program.answer(name, a);
        long due = model.call(name, cut(name, a));
        lastDue = due;
        told.add(name + Arrays.toString(cut(name, a)) + " -> " + got);
        if (got == due) {
            return true;
        }
        for (String call : told) {
            System.out.println("  " + call);
        }
        System.out.println("run " + run + ": the last call's due answer is " + due);
        return false;
    }

    private static long[] cut(String name, long[] a) {
        long[] cut = a.clone();
        for (int i = 0; i < a.length; i++) {
            cut[i] = Calls.isLong(name, i) ? a[i] : (int) a[i];
        }
        return cut;
    }
}
