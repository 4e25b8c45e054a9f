/** Each sentence of promises 1 to 37 that names a boundary, at it and on either side of it. */
public final class PromisesBoundaryTest {
    private static final Rows ROWS = new Rows();
    // Each call with arguments that it takes, as a new object with one clerk, sheets 0 and 1 and an image stands.
    private static final String[] TAKEN = {"lake 0 5", "rain 0 5", "rainOf 0", "now 0", "person 0", "of 0 0",
        "set 0 1 5", "turn 0 0", "as 0 0", "months 1", "on 1 0", "then 0 1 0", "when 1", "gone 0", "bears 1",
        "best 1 1", "kind 0 1", "deep 1", "recall 1", "rank 0 1", "busiest 1", "sheet 0 8 1", "write 0 0 1",
        "copy 0 0 1 0 1", "lays 0", "book 0", "read 0 0", "count 0", "status 0"};

    public static void main(String[] args) {
        newObject();
        lake();
        people();
        months();
        lookAhead();
        lastMonthAhead();
        best();
        bestOfPeople();
        text();
        sheets();
        copies();
        booksAndReader();
        images();
        extremes();
        longRun();
        ROWS.allPromisesMustBeQuoted();
        ROWS.end();
    }

    private static void sentence(int promise, String quote) {
        ROWS.sentence(promise, quote);
    }

    private static void due(String... rows) {
        ROWS.due(rows);
    }

    private static void told(String text, long want) {
        ROWS.told(text, want);
    }

    /** No rain at all, and so many inches dry each month. */
    private static void onlyDries(int inches) {
        for (int place = 0; place < 12; place++) {
            ROWS.again(1, "rain " + place + " 0");
        }
        ROWS.again(1, "lake 1 " + inches);
    }

    // ---- the lake

    private static void newObject() {
        sentence(1, "Nobody there; THE TAPE is empty, no image is kept.");
        due("now 5 = 0", "now 6 = 0", "count 0 = 0", "count 2 = 0", "of 0 0 = BEYOND", "count 1 = 0", "wipe = 0",
            "undo = NONE", "tear = 0", "status 0 = 1", "status 3 = 1", "status -1 = 2");
        told("", -1);
    }

    private static void lake() {
        sentence(2, "DEPTH (what 0), DRIES (1) becomes v: what it was. BEYOND.");
        due("lake -1 0 = BEYOND", "lake 0 -1 = BEYOND", "lake 0 0 = 60", "lake 0 999 = 0", "lake 0 1000 = BEYOND",
            "lake 0 60 = 999", "lake 1 -1 = BEYOND", "lake 1 0 = 12", "lake 1 99 = 0", "lake 1 100 = BEYOND",
            "lake 1 12 = 99", "lake 2 0 = BEYOND", "now 2 = 60", "now 3 = 12");
        sentence(3, "RAIN of a place (0 to 11) becomes v: what it was. BEYOND.");
        due("rain -1 5 = BEYOND", "rain 0 5 = 0", "rain 11 5 = 8", "rain 12 5 = BEYOND", "rain 0 -1 = BEYOND",
            "rain 0 0 = 5", "rain 0 99 = 0", "rain 0 100 = BEYOND", "rain 0 0 = 99", "count 3 = 114");
        sentence(4, "RAIN of a place. BEYOND.");
        due("rainOf -1 = BEYOND", "rainOf 0 = 0", "rainOf 1 = 7", "rainOf 10 = 1", "rainOf 11 = 8",
            "rainOf 12 = BEYOND");
        sentence(5, "What 0 MONTH, 1 that of the year, 2 DEPTH, 3 DRIES");
        due("now -1 = BEYOND", "now 0 = 0", "now 1 = 0", "now 2 = 60", "now 3 = 12", "months 12 = 33", "now 0 = 12",
            "now 1 = 0", "now 7 = BEYOND");
        sentence(5, "4 1 if there is a COUNTRY, 2 with ICE, else 0");
        due("now 4 = 2", "lake 0 50 = 60", "now 4 = 2", "lake 0 49 = 50", "now 4 = 1", "lake 0 20 = 49", "now 4 = 1",
            "lake 0 19 = 20", "now 4 = 0", "lake 0 0 = 19", "now 4 = 0");
        sentence(5, "5 those that are there, as a set, 6 WROTE of all together. BEYOND.");
        for (int person = 0; person < 8; person++) {
            due("person 0 = " + person, "now 5 = " + ((2 << person) - 1), "set " + person + " 3 9999 = 0",
                "now 6 = " + 9999 * (person + 1));
        }
        due("set 0 4 1 = 0", "now 5 = 254", "now 6 = 79992", "now 7 = BEYOND");
    }

    // ---- people

    private static void people() {
        sentence(6, "One more: the number. BEYOND: kind. FULL.");
        due("person -1 = BEYOND", "person 6 = BEYOND", "count 0 = 0", "person 0 = 0", "person 5 = 1");
        ROWS.again(5, "person 3");
        due("person 4 = 7", "person 0 = FULL", "person 5 = FULL", "person 6 = BEYOND", "person -1 = BEYOND",
            "count 0 = 8", "of 7 0 = 4");
        sentence(7, "Of one: what 0 KIND, 1 RANK, 2 LOVE, 3 WROTE, 4 GONE");
        due("of 0 0 = BEYOND", "person 2 = 0", "of -1 0 = BEYOND", "of 0 -1 = BEYOND", "of 0 0 = 2", "of 0 1 = 10",
            "of 0 2 = 0", "of 0 3 = 0", "of 0 4 = 0", "of 0 7 = 0", "of 0 8 = BEYOND", "of 1 0 = BEYOND");
        sentence(7, "5 WRITES (at the DEPTH that is, in this month, COUNTRY or not), 6 LOVES, 7 1 if it LEAVES");
        due("person 0 = 0", "person 5 = 1", "lake 0 20 = 60", "of 0 5 = 1", "lake 0 19 = 20", "of 0 5 = 1",
            "lake 0 0 = 19", "of 0 5 = 1", "of 0 6 = 1", "of 1 6 = 1", "lake 0 1 = 0", "of 1 6 = 0", "lake 0 50 = 1",
            "of 0 6 = 1", "of 1 5 = 5", "lake 0 49 = 50", "of 1 5 = 2", "set 0 2 29 = 0", "of 0 7 = 0",
            "set 0 2 30 = 29", "of 0 7 = 1", "of 0 4 = 0");
        sentence(8, "RANK (what 1), LOVE (2), WROTE (3), GONE (4) of one becomes v: what it was. BEYOND.");
        due("set 0 1 5 = BEYOND", "person 0 = 0", "set -1 1 5 = BEYOND", "set 1 1 5 = BEYOND", "set 0 0 1 = BEYOND",
            "set 0 5 1 = BEYOND", "set 0 -1 1 = BEYOND", "set 0 1 -1 = BEYOND", "set 0 1 0 = 10", "set 0 1 99 = 0",
            "set 0 1 100 = BEYOND", "set 0 2 -1 = BEYOND", "set 0 2 99 = 0", "set 0 2 0 = 99", "set 0 2 100 = BEYOND",
            "set 0 3 -1 = BEYOND", "set 0 3 9999 = 0", "set 0 3 9998 = 9999", "set 0 3 10000 = BEYOND",
            "set 0 4 -1 = BEYOND", "set 0 4 1 = 0", "set 0 4 2 = BEYOND", "set 0 4 0 = 1", "of 0 1 = 99",
            "of 0 2 = 0", "of 0 3 = 9998", "of 0 4 = 0");
        sentence(9, "One becomes one of another KIND: what it was. BEYOND.");
        due("turn 0 0 = BEYOND", "person 3 = 0", "turn -1 0 = BEYOND", "turn 1 0 = BEYOND", "turn 0 -1 = BEYOND",
            "turn 0 6 = BEYOND", "turn 0 5 = 3", "turn 0 0 = 5", "of 0 0 = 0");
        sentence(10, "BEYOND: no such one, kind.");
        due("as 0 0 = BEYOND", "person 0 = 0", "as -1 0 = BEYOND", "as 0 0 = 10", "as 1 0 = BEYOND",
            "as 0 -1 = BEYOND", "as 0 5 = KIND", "as 0 6 = BEYOND");
        sentence(10, "KIND: it isn't of that kind, nor of one under it.");
        // A text for each kind that one is of, a place in it for each kind that one is taken as.
        String[] ofKinds = {"x.....", "xx....", "x.x...", "x..x..", "xx..x.", "x.x..x"};
        for (int of = 0; of < 6; of++) {
            due("person " + of + " = " + of);
            for (int as = 0; as < 6; as++) {
                due("as " + of + " " + as + " = " + (ofKinds[of].charAt(as) == 'x' ? "10" : "KIND"));
            }
        }
    }

    // ---- months

    private static void months() {
        sentence(11, "n MONTHS go (1 to 120): DEPTH then. BEYOND.");
        due("months -1 = BEYOND", "months 0 = BEYOND", "now 0 = 0", "months 1 = 48", "now 0 = 1", "months 119 = 0",
            "now 0 = 120", "months 120 = 0", "now 0 = 240", "months 121 = BEYOND", "now 0 = 240");
        sentence(11, "STATE: MONTH would be above 9999.");
        ROWS.again(82, "months 120");
        due("months 39 = 2", "months 120 = 2", "now 0 = 9999", "months 1 = STATE", "months 120 = STATE");
        sentence(11, "STATE: MONTH would be above 9999.");
        ROWS.again(82, "months 120");
        due("months 40 = 11", "months 120 = STATE", "now 0 = 9880", "months 119 = 2", "now 0 = 9999",
            "months 1 = STATE", "status 4 = 2");
    }

    private static void lookAhead() {
        sentence(12, "DEPTH (what 0), WROTE of all together (1), how many are there (2) ON n MONTHS (0 to 240). BEYOND.");
        onlyDries(1);
        due("person 0 = 0", "lake 0 240 = 60", "on -1 0 = BEYOND", "on 0 0 = 240", "on 1 0 = 239", "on 239 0 = 1",
            "on 240 0 = 0", "on 241 0 = BEYOND", "on 0 -1 = BEYOND", "on 0 1 = 0", "on 0 2 = 1", "on 0 3 = BEYOND",
            "on 220 1 = 220", "on 221 1 = 220", "on 240 2 = 1", "lake 0 230 = 240", "on 239 2 = 1", "on 240 2 = 0",
            "lake 0 241 = 230", "on 240 0 = 1", "now 0 = 0");
        sentence(13, "LOVE (what 0), WROTE (1), GONE (2) of one ON n MONTHS (0 to 240). BEYOND.");
        onlyDries(1);
        due("then 0 0 0 = BEYOND", "person 0 = 0", "lake 0 230 = 60", "then -1 0 0 = BEYOND", "then 1 0 0 = BEYOND",
            "then 0 -1 0 = BEYOND", "then 0 0 0 = 0", "then 0 210 1 = 210", "then 0 211 1 = 210", "then 0 210 0 = 0",
            "then 0 211 0 = 1", "then 0 239 0 = 29", "then 0 239 2 = 0", "then 0 240 0 = 30", "then 0 240 2 = 1",
            "then 0 241 0 = BEYOND", "then 0 0 -1 = BEYOND", "then 0 0 2 = 0", "then 0 0 3 = BEYOND", "of 0 4 = 0");
    }

    private static void lastMonthAhead() {
        sentence(14, "In how many MONTHS (0 to 240) ON there is a COUNTRY (v 1), or none (0), first. BEYOND. NONE.");
        onlyDries(1);
        due("when -1 = BEYOND", "when 2 = BEYOND", "when 1 = 0", "lake 0 19 = 60", "when 0 = 0", "when 1 = NONE",
            "lake 0 20 = 19", "when 1 = 0", "when 0 = 1", "lake 0 258 = 20", "when 0 = 239", "lake 0 259 = 258",
            "when 0 = 240", "lake 0 260 = 259", "when 0 = NONE", "now 0 = 0");
        sentence(14, "In how many MONTHS (0 to 240) ON there is a COUNTRY (v 1), or none (0), first. BEYOND. NONE.");
        // One inch more a year, but for the month in which the heron still drinks: the 20th comes 241 months on.
        for (int place = 1; place < 12; place++) {
            ROWS.again(1, "rain " + place + " 1");
        }
        due("rain 0 2 = 0", "lake 1 1 = 12", "lake 0 0 = 60", "person 3 = 0", "when 1 = NONE", "months 1 = 0",
            "of 0 4 = 1", "when 1 = 240", "months 1 = 0", "when 1 = 239");
        sentence(15, "In how many MONTHS (0 to 240) ON one is GONE first. BEYOND. NONE.");
        onlyDries(1);
        due("gone 0 = BEYOND", "person 0 = 0", "gone -1 = BEYOND", "gone 1 = BEYOND", "lake 0 229 = 60", "gone 0 = 239",
            "lake 0 230 = 229", "gone 0 = 240", "lake 0 231 = 230", "gone 0 = NONE", "set 0 4 1 = 0", "gone 0 = 0",
            "set 0 4 0 = 1", "set 0 2 30 = 0", "gone 0 = 1", "now 0 = 0");
        sentence(16, "In how many MONTHS (0 to 240) ON nobody is there (of those that there are) first. NONE.");
        onlyDries(1);
        due("empty = 0", "person 0 = 0", "lake 0 229 = 60", "empty = 239", "lake 0 230 = 229", "empty = 240",
            "lake 0 231 = 230", "empty = NONE", "set 0 4 1 = 0", "empty = 0", "person 0 = 1", "empty = NONE",
            "set 1 2 30 = 0", "empty = 1", "person 2 = 2", "empty = NONE", "set 2 4 1 = 0", "empty = 1");
    }

    // ---- what is best

    private static void best() {
        sentence(17, "The greatest DRIES (0 to 99) with which there is a COUNTRY behind each of n MONTHS (1 to 60). "
            + "BEYOND. NONE.");
        onlyDries(12);
        due("bears 0 = BEYOND", "bears 61 = BEYOND", "bears 1 = 40", "lake 0 19 = 60", "bears 1 = NONE",
            "lake 0 20 = 19", "bears 1 = 0", "bears 60 = 0", "lake 0 21 = 20", "bears 1 = 1", "bears 2 = 0",
            "lake 0 118 = 21", "bears 1 = 98", "lake 0 119 = 118", "bears 1 = 99", "lake 0 120 = 119",
            "bears 1 = 99", "lake 0 979 = 120", "bears 60 = 15", "lake 0 980 = 979", "bears 60 = 16", "now 3 = 12",
            "rain 1 99 = 0", "lake 0 19 = 980", "bears 2 = NONE", "lake 0 20 = 19", "bears 2 = 0", "rain 0 1 = 0",
            "lake 0 19 = 20", "bears 1 = 0", "bears 2 = 0");
        sentence(18, "The place of RAIN (0 to 11) at which v (1 to 99) more (99 at most there)");
        due("best 0 1 = BEYOND", "best 100 1 = BEYOND", "best 1 0 = BEYOND", "best 1 61 = BEYOND", "best 1 1 = 0",
            "best 99 60 = 0", "person 0 = 0", "months 11 = 37", "lake 0 22 = 37", "best 1 1 = 0", "best 2 1 = 11",
            "lake 0 23 = 22", "best 1 1 = 11", "lake 0 24 = 23", "best 1 1 = 0", "rainOf 11 = 8");
        sentence(18, "The place of RAIN (0 to 11) at which v (1 to 99) more (99 at most there)");
        due("person 2 = 0", "rain 0 98 = 0", "rain 1 0 = 7", "lake 1 0 = 12", "lake 0 21 = 60", "best 99 2 = 1",
            "best 1 1 = 0", "lake 0 1 = 21", "best 1 1 = 0", "rain 0 99 = 98", "best 99 1 = 0", "best 1 2 = 0",
            "best 20 2 = 1");
        sentence(18, "makes WROTE of all together most ON n MONTHS (1 to 60); of several the least. BEYOND.");
        onlyDries(0);
        due("person 0 = 0", "lake 0 19 = 60", "months 1 = 19", "best 1 1 = 1", "best 1 11 = 1", "best 1 12 = 1",
            "rain 1 1 = 0", "best 1 1 = 0", "lake 0 18 = 19", "best 1 1 = 1", "best 1 2 = 1", "rain 1 0 = 1",
            "rain 2 1 = 0", "best 1 1 = 0", "best 1 2 = 1", "lake 0 17 = 18", "best 1 2 = 0", "best 1 60 = 1",
            "best 2 60 = 1");
        sentence(19, "The KIND as one of which one WROTE most ON n MONTHS (1 to 60); of several the least. BEYOND.");
        due("kind 0 1 = BEYOND", "person 3 = 0", "kind -1 1 = BEYOND", "kind 1 1 = BEYOND", "kind 0 0 = BEYOND",
            "kind 0 61 = BEYOND", "lake 0 31 = 60", "kind 0 1 = 0", "lake 0 51 = 31", "kind 0 1 = 0",
            "lake 0 52 = 51", "kind 0 1 = 2", "lake 0 53 = 52", "kind 0 1 = 4", "lake 0 61 = 53", "kind 0 1 = 4",
            "lake 0 62 = 61", "kind 0 1 = 5", "lake 0 51 = 62", "set 0 1 19 = 10", "kind 0 1 = 0", "set 0 1 20 = 19",
            "kind 0 1 = 1", "set 0 4 1 = 0", "kind 0 60 = 0", "of 0 0 = 3");
        sentence(20, "The least DEPTH (0 to 999) now with which nobody more is GONE ON n MONTHS (1 to 60). BEYOND. NONE.");
        onlyDries(99);
        due("deep 0 = BEYOND", "deep 61 = BEYOND", "deep 1 = 0", "deep 60 = 0", "person 3 = 0", "deep 1 = 101",
            "deep 9 = 901", "deep 10 = NONE", "rain 5 1 = 0", "deep 10 = NONE", "rain 5 2 = 1", "deep 10 = 999",
            "rain 5 3 = 2", "deep 10 = 998", "set 0 4 1 = 0", "deep 60 = 0", "person 0 = 1", "set 1 2 29 = 0",
            "deep 1 = 119", "set 1 2 30 = 29", "deep 1 = NONE", "now 2 = 60");
    }

    private static void bestOfPeople() {
        sentence(21, "Who, GONE now (one that isn't), leaves WROTE of all others most ON n MONTHS (1 to 60); "
            + "of several the least. BEYOND.");
        due("person 0 = 0", "recall 0 = BEYOND", "recall 61 = BEYOND", "recall 1 = 0", "recall 60 = 0",
            "person 0 = 1", "recall 1 = 0", "set 0 3 1 = 0", "recall 1 = 1", "set 1 3 1 = 0", "recall 1 = 0",
            "set 1 3 0 = 1", "set 1 4 1 = 0", "recall 1 = 0", "now 5 = 1");
        sentence(21, "Who, GONE now (one that isn't), leaves WROTE of all others most ON n MONTHS (1 to 60)");
        due("person 0 = 0", "person 3 = 1", "lake 0 31 = 60", "recall 1 = 0", "lake 0 32 = 31", "recall 1 = 1",
            "lake 0 33 = 32", "recall 1 = 1", "set 1 3 1 = 0", "recall 1 = 0", "set 1 3 2 = 1", "recall 1 = 0",
            "recall 2 = 0", "set 1 3 1 = 2", "recall 2 = 0", "lake 0 60 = 33", "recall 1 = 0", "recall 2 = 1");
        sentence(21, "NONE: all are GONE.");
        due("recall 1 = NONE", "person 0 = 0", "recall 1 = 0", "set 0 4 1 = 0", "recall 1 = NONE", "person 2 = 1",
            "recall 1 = 1", "set 1 4 1 = 0", "recall 60 = NONE", "recall 61 = BEYOND");
        sentence(22, "The least RANK (0 to 99) of one with which it isn't GONE ON n MONTHS (1 to 60). BEYOND. NONE.");
        onlyDries(99);
        due("rank 0 1 = BEYOND", "person 4 = 0", "rank -1 1 = BEYOND", "rank 1 1 = BEYOND", "rank 0 0 = BEYOND",
            "rank 0 61 = BEYOND", "lake 0 0 = 60", "set 0 2 14 = 0", "rank 0 1 = 0", "set 0 2 15 = 14",
            "rank 0 1 = 20", "set 0 2 16 = 15", "rank 0 1 = 40", "set 0 2 17 = 16", "rank 0 1 = 51", "rank 0 60 = 51",
            "set 0 2 99 = 17", "rank 0 60 = 51", "turn 0 1 = 4", "rank 0 1 = NONE", "set 0 2 14 = 99", "rank 0 1 = 0",
            "rank 0 2 = NONE", "turn 0 2 = 1", "rank 0 60 = 0", "set 0 4 1 = 0", "rank 0 1 = NONE", "of 0 1 = 10");
        sentence(23, "Who WROTE most ON n MONTHS (0 to 240); of several the least. BEYOND. NONE: there is nobody at all.");
        due("busiest -1 = BEYOND", "busiest 0 = NONE", "busiest 240 = NONE", "busiest 241 = BEYOND", "person 0 = 0",
            "set 0 4 1 = 0", "busiest 0 = 0", "busiest 240 = 0", "person 0 = 1", "busiest 0 = 0", "busiest 1 = 1",
            "set 0 3 1 = 0", "busiest 1 = 0", "busiest 2 = 1");
        onlyDries(0);
        due("set 0 3 239 = 1", "busiest 239 = 0", "busiest 240 = 1", "set 0 3 240 = 239", "busiest 240 = 0");
    }

    // ---- the text

    private static void text() {
        sentence(24, "THE TAPE gets the n lowest bytes of a number behind it, the highest of these first (n 1 to 4)");
        // "dept", then "h" and " 7", or "h 7", each with bytes above them that must not come.
        due("feed 0 0 = BEYOND", "feed 0 -1 = BEYOND", "feed 0 5 = BEYOND", "count 1 = 0", "feed 1684369524 4 = 4",
            "feed 287454056 1 = 5", "feed -57289 2 = 7", "text = 1", "now 2 = 7", "feed 1684369524 4 = 4",
            "feed -9953224 3 = 7", "text = 1", "now 2 = 8", "feed -536870912 4 = 4", "text = -1");
        sentence(24, "how many it has. BEYOND: n. FULL.");
        ROWS.feed("depth 5" + " ".repeat(109));
        due("feed 0 5 = BEYOND", "count 1 = 116", "feed 538976288 3 = 119", "feed 0 2 = FULL", "feed 0 4 = FULL",
            "feed 32 1 = 120", "feed 0 1 = FULL", "feed 0 0 = BEYOND", "text = 1", "now 2 = 5", "feed 0 4 = 4");
        sentence(25, "THE TAPE is empty: how many it had.");
        due("wipe = 0", "feed 0 1 = 1", "wipe = 1", "wipe = 0");
        ROWS.again(30, "feed 0 4");
        due("wipe = 120", "count 1 = 0", "feed 0 4 = 4");
        sentence(26, "whose ITEMS come to what there is, and empty then: how many ITEMS.");
        due("person 2 = 0", "lake 0 9 = 60");
        told("clerk", 1);
        due("count 1 = 0", "count 0 = 2", "of 0 0 = 2", "of 1 0 = 0", "now 2 = 9");
        told("depth 1;depth 2;depth 3", 3);
        due("count 1 = 0", "now 2 = 3", "text = -1", "now 2 = 3");
        sentence(26, "With a FAULT: -1 less its place (nothing changes but that THE TAPE is empty; no finding).");
        due("text = -1", "image = 1");
        told("x", -1);
        told("clerk;depth 5;dries 5;rain 5 5;x", -32);
        told("clerk rank 5 love 5;", -21);
        told("clerk;" + " ".repeat(113) + "x", -120);
        told("clerk;" + " ".repeat(109) + "depth", -121);
        due("count 0 = 0", "count 1 = 0", "now 2 = 60", "now 3 = 12", "rainOf 5 = 12", "status -1 = 0", "undo = 0");
    }

    // ---- sheets

    private static void sheets() {
        sentence(27, "A sheet has n numbers, all 0, of 8, 16 or 64 bits; bits 0: it is MISSING: n (0 if it is MISSING).");
        due("sheet 0 8 40 = 40", "write 0 39 7 = 0", "sheet 0 16 40 = 40", "write 0 39 0 = 0", "sheet 0 64 1 = 1",
            "write 0 0 8 = 0", "write 0 1 8 = BEYOND", "sheet 0 8 0 = 0", "write 0 0 8 = BEYOND", "sheet 0 0 40 = 0",
            "write 0 0 8 = MISSING", "sheet 0 0 0 = 0", "sheet 0 64 2 = 2", "write 0 0 0 = 0", "write 0 1 0 = 0");
        sentence(27, "BEYOND: no such sheet, other bits.");
        due("sheet -1 8 1 = BEYOND", "sheet 4 8 1 = BEYOND", "sheet 3 8 1 = 1", "sheet 3 7 1 = BEYOND",
            "sheet 3 9 1 = BEYOND", "sheet 3 15 1 = BEYOND", "sheet 3 17 1 = BEYOND", "sheet 3 32 1 = BEYOND",
            "sheet 3 63 1 = BEYOND", "sheet 3 65 1 = BEYOND", "sheet 3 1 1 = BEYOND", "sheet 3 -1 1 = BEYOND",
            "sheet 3 -8 1 = BEYOND", "sheet 4 8 -1 = BEYOND", "sheet 3 7 -1 = BEYOND", "write 3 0 0 = 0");
        sentence(27, "SIZE: n is below 0 (also with bits 0).");
        due("sheet 0 16 1 = 1", "write 0 0 300 = 0", "sheet 0 8 -1 = SIZE", "sheet 0 16 -2147483648 = SIZE",
            "sheet 0 0 -1 = SIZE", "write 0 0 300 = 300", "sheet 0 0 0 = 0", "sheet 0 8 0 = 0", "status 6 = 3");
        sentence(27, "BEYOND: n is above 40 (also with bits 0).");
        due("sheet 0 16 1 = 1", "write 0 0 300 = 0", "sheet 0 8 41 = BEYOND", "sheet 0 64 2147483647 = BEYOND",
            "sheet 0 0 41 = BEYOND", "write 0 0 300 = 300", "sheet 0 0 40 = 0", "sheet 0 8 40 = 40", "status 0 = 3");
        sentence(28, "Number i of a sheet becomes v (its lowest bits): what it was.");
        due("sheet 0 8 1 = 1", "write 0 0 127 = 0", "write 0 0 128 = 127", "write 0 0 255 = -128", "write 0 0 256 = -1",
            "write 0 0 -128 = 0", "write 0 0 -129 = -128", "write 0 0 0 = 127");
        due("sheet 1 16 1 = 1", "write 1 0 32767 = 0", "write 1 0 32768 = 32767", "write 1 0 65535 = -32768",
            "write 1 0 65536 = -1", "write 1 0 -32768 = 0", "write 1 0 -32769 = -32768", "write 1 0 0 = 32767");
        due("sheet 2 64 1 = 1", "write 2 0 4294967296 = 0", "write 2 0 9223372036854775807 = 4294967296",
            "write 2 0 -9223372036854775808 = 9223372036854775807", "write 2 0 0 = -9223372036854775808",
            "status -1 = 0");
        sentence(28, "BEYOND: no such sheet. MISSING. BEYOND: no such number.");
        due("write -1 0 5 = BEYOND", "write 4 0 5 = BEYOND", "write 4 -1 5 = BEYOND", "write 3 0 5 = MISSING",
            "write 3 -1 5 = MISSING", "sheet 3 8 0 = 0", "write 3 0 5 = BEYOND", "sheet 3 8 2 = 2",
            "write 3 -1 5 = BEYOND", "write 3 0 5 = 0", "write 3 1 6 = 0", "write 3 2 7 = BEYOND",
            "write 3 40 7 = BEYOND", "write 3 0 5 = 5", "write 3 1 6 = 6");
    }

    private static void copies() {
        sentence(29, "n numbers of a sheet from one on come to another one from one on (as they all were): n.");
        due("sheet 0 8 4 = 4", "write 0 0 1 = 0", "write 0 1 2 = 0", "write 0 2 3 = 0", "write 0 3 4 = 0",
            "copy 0 0 0 1 3 = 3", "write 0 0 1 = 1", "write 0 1 2 = 1", "write 0 2 3 = 2", "write 0 3 4 = 3",
            "copy 0 1 0 0 3 = 3", "write 0 0 1 = 2", "write 0 1 2 = 3", "write 0 2 3 = 4", "write 0 3 4 = 4",
            "copy 0 0 0 0 4 = 4", "write 0 0 1 = 1", "write 0 3 4 = 4", "sheet 1 8 2 = 2", "copy 0 3 1 0 1 = 1",
            "write 1 0 0 = 4", "write 1 1 0 = 0", "copy 0 0 1 0 0 = 0", "write 1 0 0 = 0");
        sentence(29, "BEYOND: no such sheet (either). MISSING: one is.");
        due("copy -1 0 0 0 0 = BEYOND", "copy 4 0 0 0 0 = BEYOND", "copy 0 0 -1 0 0 = BEYOND",
            "copy 0 0 4 0 0 = BEYOND", "copy 0 0 3 0 0 = MISSING", "sheet 0 8 1 = 1", "copy 0 0 3 0 0 = MISSING",
            "copy 3 0 0 0 0 = MISSING", "copy 3 0 3 0 0 = MISSING", "sheet 3 8 1 = 1", "copy 0 0 3 0 0 = 0",
            "copy 3 0 0 0 1 = 1");
        sentence(29, "KIND: they are not of as many bits.");
        due("sheet 0 8 1 = 1", "sheet 1 16 1 = 1", "sheet 2 64 1 = 1", "sheet 3 16 1 = 1", "copy 0 0 1 0 0 = KIND",
            "copy 1 0 0 0 1 = KIND", "copy 1 0 2 0 1 = KIND", "copy 2 0 0 0 1 = KIND", "copy 1 0 3 0 1 = 1",
            "copy 0 5 1 5 5 = KIND");
        sentence(29, "BEYOND: one has not so many, or from, to or n is below 0.");
        due("sheet 0 16 5 = 5", "sheet 1 16 3 = 3", "write 0 0 9 = 0", "copy 0 2 1 0 3 = 3", "copy 0 3 1 0 3 = BEYOND",
            "copy 0 0 1 0 3 = 3", "copy 0 0 1 0 4 = BEYOND", "copy 0 0 1 1 2 = 2", "copy 0 0 1 1 3 = BEYOND",
            "copy 1 0 0 2 3 = 3", "copy 1 0 0 3 3 = BEYOND", "copy 1 0 0 0 4 = BEYOND", "copy 0 5 1 3 0 = 0",
            "copy 0 6 1 0 0 = BEYOND", "copy 0 0 1 4 0 = BEYOND", "copy 0 -1 1 0 1 = BEYOND",
            "copy 0 0 1 -1 1 = BEYOND", "copy 0 0 1 0 -1 = BEYOND", "copy 0 -1 1 0 0 = BEYOND",
            "copy 0 2147483647 1 0 1 = BEYOND", "copy 0 1 1 2147483647 1 = BEYOND",
            "copy 0 2147483647 1 2147483647 2147483647 = BEYOND", "copy 0 1 1 1 2147483647 = BEYOND",
            "copy 0 -2147483648 1 0 -2147483648 = BEYOND");
        sentence(30, "Numbers of a sheet become RAIN of places 0, 1, .. (those that aren't 0 to 99, or stand for none, "
            + "are left out): how many came.");
        due("sheet 0 64 4 = 4", "write 0 0 -1 = 0", "write 0 1 0 = 0", "write 0 2 99 = 0", "write 0 3 100 = 0",
            "rain 0 50 = 0", "lays 0 = 2", "rainOf 0 = 50", "rainOf 1 = 0", "rainOf 2 = 99", "rainOf 3 = 21",
            "rainOf 4 = 5", "sheet 0 64 1 = 1", "write 0 0 4294967296 = 0", "lays 0 = 0", "rainOf 0 = 50",
            "sheet 0 64 0 = 0", "lays 0 = 0", "sheet 0 8 11 = 11", "lays 0 = 11", "rainOf 11 = 8", "count 3 = 8",
            "sheet 0 8 12 = 12", "write 0 11 6 = 0", "lays 0 = 12", "rainOf 11 = 6", "sheet 0 8 13 = 13",
            "write 0 12 9 = 0", "lays 0 = 12", "count 3 = 0", "sheet 0 16 40 = 40", "write 0 12 9 = 0",
            "write 0 0 -1 = 0", "lays 0 = 11", "count 3 = 0");
        sentence(30, "BEYOND: no such sheet. MISSING.");
        due("lays -1 = BEYOND", "lays 4 = BEYOND", "lays 0 = MISSING", "lays 3 = MISSING", "sheet 3 8 1 = 1",
            "lays 3 = 1");
    }

    private static void booksAndReader() {
        sentence(31, "A book: DEPTH ON 0, 1, 2, .. MONTHS comes to a sheet, as many as it has numbers: how many.");
        onlyDries(1);
        due("sheet 0 16 0 = 0", "book 0 = 0", "sheet 0 16 1 = 1", "book 0 = 1", "write 0 0 0 = 60",
            "sheet 0 16 40 = 40", "book 0 = 40", "write 0 0 0 = 60", "write 0 1 0 = 59", "write 0 39 0 = 21",
            "lake 0 129 = 60", "sheet 0 8 3 = 3", "book 0 = 3", "write 0 0 0 = -127", "write 0 1 0 = -128",
            "write 0 2 0 = 127", "lake 0 257 = 129", "book 0 = 3", "write 0 0 0 = 1", "write 0 1 0 = 0",
            "write 0 2 0 = -1", "lake 0 999 = 257", "sheet 0 16 1 = 1", "book 0 = 1", "write 0 0 0 = 999",
            "now 0 = 0", "now 2 = 999");
        sentence(31, "BEYOND: no such sheet. MISSING.");
        due("book -1 = BEYOND", "book 4 = BEYOND", "book 0 = MISSING", "book 3 = MISSING", "sheet 3 64 1 = 1",
            "book 3 = 1", "write 3 0 0 = 60");
        sentence(32, "numbers of a sheet are WROTE of one ON 0, 1, 2, .. MONTHS: how many pairs of a KIND and a RANK "
            + "(0 to 99) of it make it just so.");
        due("person 0 = 0", "sheet 0 8 0 = 0", "read 0 0 = 600", "sheet 0 8 1 = 1", "read 0 0 = 600", "write 0 0 1 = 0",
            "read 0 0 = 0", "set 0 3 1 = 0", "read 0 0 = 600", "set 0 3 0 = 1", "sheet 0 8 2 = 2");
        int[] pairs = {100, 120, 220, 40, 40, 40, 20, 20, 0};
        for (int wrote = 0; wrote < pairs.length; wrote++) {
            ROWS.again(1, "write 0 1 " + wrote);
            due("read 0 0 = " + pairs[wrote]);
        }
        due("write 0 1 -1 = 8", "read 0 0 = 0", "of 0 0 = 0", "of 0 1 = 10", "lake 0 0 = 60", "lake 1 99 = 12",
            "sheet 0 64 40 = 40", "read 0 0 = 600", "write 0 39 1 = 0", "read 0 0 = 0");
        sentence(32, "BEYOND: no such sheet. MISSING. BEYOND: person.");
        due("read -1 0 = BEYOND", "read 4 0 = BEYOND", "read 0 0 = MISSING", "read 3 -1 = MISSING", "sheet 3 8 0 = 0",
            "read 3 0 = BEYOND", "person 0 = 0", "read 3 -1 = BEYOND", "read 3 0 = 600", "read 3 1 = BEYOND");
    }

    // ---- images

    private static void images() {
        sentence(33, "All that section 1 tells (THE TAPE not) is kept: 1.");
        due("image = 1", "feed 97 1 = 1", "undo = 0", "count 1 = 1", "image = 1", "wipe = 1", "undo = 0",
            "count 1 = 0", "image = 1", "image = 1", "tear = 1", "tear = 0");
        ROWS.again(8, "person 4");
        due("set 7 1 99 = 10", "set 7 2 98 = 0", "set 7 3 9999 = 0", "set 7 4 1 = 0", "rain 11 97 = 8",
            "lake 0 999 = 60", "lake 1 96 = 12", "months 12 = 53", "image = 1");
        told("depth 1;dries 2;rain 11 3", 3);
        due("turn 7 0 = 4", "set 7 1 0 = 99", "set 7 2 0 = 98", "set 7 3 0 = 9999", "set 7 4 0 = 1", "months 5 = 39",
            "undo = 8", "of 7 0 = 4", "of 7 1 = 99", "of 7 2 = 98", "of 7 3 = 9999", "of 7 4 = 1", "rainOf 11 = 97",
            "now 0 = 12", "now 2 = 53", "now 3 = 96");
        sentence(34, "It becomes what was kept latest (which stays): how many PEOPLE (GONE or not). NONE: nothing is kept.");
        due("undo = NONE", "image = 1", "person 0 = 0", "undo = 0", "count 0 = 0", "person 0 = 0", "person 0 = 1",
            "set 1 4 1 = 0", "image = 1", "person 0 = 2", "undo = 2", "count 2 = 1", "of 2 0 = BEYOND", "undo = 2",
            "tear = 1", "undo = NONE", "count 0 = 2");
        sentence(35, "Nothing is kept: 1 if something was, else 0.");
        due("tear = 0", "image = 1", "undo = 0", "tear = 1", "tear = 0", "undo = NONE", "image = 1", "undo = 0");
        sentence(36, "0 PEOPLE (GONE or not), 1 bytes of THE TAPE, 2 those that are GONE, 3 RAIN of a year together.");
        due("count 0 = 0", "count 2 = 0", "count 3 = 117");
        ROWS.again(8, "person 0");
        ROWS.again(30, "feed 0 4");
        for (int i = 0; i < 8; i++) {
            due("count 2 = " + i, "set " + i + " 4 1 = 0", "count 0 = 8");
        }
        due("count 2 = 8", "count 1 = 120", "wipe = 120", "count 1 = 0");
        for (int place = 0; place < 12; place++) {
            ROWS.again(1, "rain " + place + " 99");
        }
        due("count 3 = 1188");
        onlyDries(0);
        due("count 3 = 0");
        sentence(36, "BEYOND: another what.");
        due("count -1 = BEYOND", "count 0 = 0", "count 3 = 117", "count 4 = BEYOND");
        sentence(37, "How many acts answered a finding ever (undo() takes none back): which -1: all, 0 to 6: BEYOND to SIZE.");
        due("status -1 = 0", "status 0 = 0", "status 6 = 0", "image = 1", "now 7 = BEYOND", "sheet 0 8 -1 = SIZE",
            "status -1 = 2", "status 0 = 1", "status 1 = 0", "status 5 = 0", "status 6 = 1", "undo = 0",
            "status -1 = 2", "status 0 = 1", "status 6 = 1", "tear = 1", "status -1 = 2");
        told("x", -1);
        due("status -1 = 2");
        sentence(37, "BEYOND (counted from then on): another one.");
        due("status -2 = BEYOND", "status 0 = 1", "status 7 = BEYOND", "status 0 = 2", "status -1 = 2");
    }

    // ---- of all calls

    /** The least and the greatest int for each argument, all others as the call takes them. */
    private static void extremes() {
        for (String call : TAKEN) {
            String[] parts = call.split(" ");
            for (int i = 1; i < parts.length; i++) {
                boolean isAnyNumber = parts[0].equals("write") && i == 3;
                if (!isAnyNumber) {
                    extreme(parts, i, Integer.MIN_VALUE);
                    extreme(parts, i, Integer.MAX_VALUE);
                }
            }
        }
        ROWS.begin("feed of extreme numbers");
        due("feed -2147483648 4 = 4", "feed 2147483647 4 = 8", "feed 5 -2147483648 = BEYOND",
            "feed 5 2147483647 = BEYOND");
        told("", -1);
    }

    private static void extreme(String[] call, int argument, int value) {
        String[] changed = call.clone();
        changed[argument] = Integer.toString(value);
        boolean isLength = call[0].equals("sheet") && argument == 3;
        ROWS.begin("extremes of " + call[0]);
        due("person 0 = 0", "sheet 0 8 1 = 1", "sheet 1 8 1 = 1", "image = 1");
        ROWS.feed("depth 5");
        due(String.join(" ", changed) + " = " + (isLength && value < 0 ? "SIZE" : "BEYOND"));
    }

    /** An object is used for at most 512 calls: the last of them must still answer as the first did. */
    private static void longRun() {
        ROWS.begin("512 calls");
        ROWS.again(8, "person 2");
        ROWS.again(250, "now 7");
        ROWS.again(80, "months 120");
        ROWS.again(172, "person 0");
        ROWS.again(1, "status 1");
        if (ROWS.callsMade() != 511) {
            throw new AssertionError("the run is to have 511 calls ahead of its last one");
        }
        ROWS.dueAlone("status -1 = 422");
    }
}
