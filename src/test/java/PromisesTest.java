/** Each promise of the document with answers worked out by hand: ordinary calls, the edges, and wrong ones. */
public final class PromisesTest {
    private static final Rows ROWS = new Rows();

    public static void main(String[] args) {
        lake();
        people();
        months();
        best();
        text();
        sheets();
        images();
        ROWS.end();
    }

    private static void begin(String title) {
        ROWS.begin(title);
    }

    private static void due(String... rows) {
        ROWS.due(rows);
    }

    private static void told(String text, long want) {
        ROWS.told(text, want);
    }

    // ---- the lake

    private static void lake() {
        begin("1 a new object");
        due("now 0 = 0", "now 1 = 0", "now 2 = 60", "now 3 = 12", "now 4 = 2", "now 5 = 0", "now 6 = 0",
            "count 0 = 0", "count 1 = 0", "count 2 = 0", "count 3 = 117", "wipe = 0", "tear = 0", "undo = NONE",
            "write 0 0 0 = MISSING", "lays 1 = MISSING", "book 2 = MISSING", "read 3 0 = MISSING");
        begin("1 a new object has no findings");
        due("status -1 = 0", "status 0 = 0", "status 3 = 0", "status 6 = 0");

        begin("2 lake");
        due("lake 0 999 = 60", "lake 0 0 = 999", "lake 0 1000 = BEYOND", "lake 0 -1 = BEYOND", "now 2 = 0",
            "lake 1 99 = 12", "lake 1 0 = 99", "lake 1 100 = BEYOND", "lake 1 -1 = BEYOND", "now 3 = 0",
            "lake 2 0 = BEYOND", "lake -1 0 = BEYOND", "lake 0 -2147483648 = BEYOND", "status 0 = 7");

        begin("3 rain");
        due("rain 0 99 = 0", "rain 0 0 = 99", "rain 11 50 = 8", "rainOf 11 = 50", "rain 12 0 = BEYOND",
            "rain -1 0 = BEYOND", "rain 3 100 = BEYOND", "rain 3 -1 = BEYOND", "rainOf 3 = 21", "status 0 = 4");

        begin("4 rainOf");
        due("rainOf 0 = 0", "rainOf 1 = 7", "rainOf 2 = 14", "rainOf 3 = 21", "rainOf 4 = 5", "rainOf 5 = 12",
            "rainOf 6 = 19", "rainOf 7 = 3", "rainOf 8 = 10", "rainOf 9 = 17", "rainOf 10 = 1", "rainOf 11 = 8",
            "rainOf 12 = BEYOND", "rainOf -1 = BEYOND", "rainOf 2147483647 = BEYOND");

        begin("5 now: months, country and ice");
        due("months 13 = 21", "now 0 = 13", "now 1 = 1", "now 2 = 21", "lake 0 50 = 21", "now 4 = 2",
            "lake 0 49 = 50", "now 4 = 1", "lake 0 20 = 49", "now 4 = 1", "lake 0 19 = 20", "now 4 = 0",
            "months 1 = 14", "lake 0 999 = 14", "now 1 = 2", "now 4 = 1", "months 8 = 981", "now 1 = 10",
            "now 4 = 1", "months 1 = 970", "now 1 = 11", "now 4 = 2", "months 1 = 966", "now 1 = 0", "now 4 = 2");
        begin("5 now: who is there, and what they wrote");
        due("person 0 = 0", "person 1 = 1", "person 2 = 2", "now 5 = 7", "set 1 4 1 = 0", "now 5 = 5",
            "set 0 3 7 = 0", "set 1 3 40 = 0", "now 6 = 47", "now 7 = BEYOND", "now -1 = BEYOND");
    }

    // ---- people

    private static void people() {
        begin("6 person");
        due("person 6 = BEYOND", "person -1 = BEYOND", "person 5 = 0", "of 0 0 = 5", "of 0 1 = 10", "of 0 2 = 0",
            "of 0 3 = 0", "of 0 4 = 0", "person 0 = 1", "person 1 = 2", "person 2 = 3", "person 3 = 4",
            "set 4 4 1 = 0", "person 4 = 5", "person 0 = 6", "person 0 = 7", "person 0 = FULL", "person 6 = BEYOND",
            "count 0 = 8", "status 1 = 1");

        begin("7 of: writes");
        sixKinds(60);
        due("lake 0 99 = 60", "of 0 5 = 1", "of 1 5 = 4", "of 2 5 = 4", "of 3 5 = 0", "of 4 5 = 6", "of 5 5 = 7",
            "lake 0 100 = 99", "of 2 5 = 5", "of 3 5 = 1", "lake 0 41 = 100", "of 4 5 = 6", "of 5 5 = 2",
            "lake 0 40 = 41", "of 4 5 = 4", "lake 0 0 = 40", "of 0 5 = 1", "of 1 5 = 4", "of 2 5 = 0", "of 4 5 = 4",
            "set 1 1 19 = 60", "of 1 5 = 1", "set 1 1 20 = 19", "of 1 5 = 2", "months 2 = 0", "lake 0 500 = 0",
            "of 5 5 = 25");
        begin("7 of: loves");
        sixKinds(60);
        due("of 0 6 = 1", "of 1 6 = 5", "of 2 6 = 0", "of 3 6 = 1", "of 4 6 = 2", "of 5 6 = 0", "set 4 1 99 = 60",
            "of 4 6 = 1", "set 4 1 0 = 99", "of 4 6 = 5", "lake 0 1 = 60", "of 5 6 = 0", "lake 0 0 = 1",
            "of 5 6 = 1", "of 2 6 = 0");
        begin("7 of: leaves, in a country");
        sixKinds(50);
        loveOfAll(29);
        due("of 0 7 = 0", "of 1 7 = 0", "of 2 7 = 0", "of 3 7 = 0", "of 4 7 = 0", "of 5 7 = 1");
        loveOfAll(30);
        due("of 0 7 = 1", "of 1 7 = 1", "of 2 7 = 0", "of 3 7 = 0", "of 4 7 = 1", "of 5 7 = 1", "set 4 1 51 = 50",
            "of 4 7 = 0");
        begin("7 of: leaves, in none");
        sixKinds(50);
        due("lake 0 19 = 60");
        loveOfAll(19);
        due("of 0 7 = 0", "of 1 7 = 0", "of 4 7 = 0");
        loveOfAll(20);
        due("of 0 7 = 0", "of 1 7 = 1", "of 2 7 = 0", "of 3 7 = 0", "of 4 7 = 1", "lake 0 0 = 19", "of 3 7 = 1",
            "of 2 7 = 0", "lake 0 20 = 0", "of 1 7 = 0", "of 3 7 = 0");
        loveOfAll(4);
        due("of 5 7 = 0", "set 5 2 5 = 4", "of 5 7 = 1", "of 6 0 = BEYOND", "of -1 0 = BEYOND", "of 0 8 = BEYOND",
            "of 0 -1 = BEYOND");

        begin("8 set");
        due("set 0 1 5 = BEYOND", "person 0 = 0", "set 0 1 99 = 10", "set 0 1 0 = 99", "set 0 1 100 = BEYOND",
            "set 0 1 -1 = BEYOND", "of 0 1 = 0", "set 0 2 99 = 0", "set 0 2 100 = BEYOND", "of 0 2 = 99",
            "set 0 3 9999 = 0", "set 0 3 10000 = BEYOND", "set 0 3 -1 = BEYOND", "of 0 3 = 9999", "set 0 4 1 = 0",
            "set 0 4 2 = BEYOND", "of 0 4 = 1", "set 0 4 0 = 1", "set 0 0 1 = BEYOND", "set 0 5 0 = BEYOND",
            "set 1 1 1 = BEYOND", "set -1 1 1 = BEYOND", "of 0 0 = 0");

        begin("9 turn");
        due("turn 0 1 = BEYOND", "person 4 = 0", "set 0 2 7 = 0", "turn 0 5 = 4", "turn 0 5 = 5", "of 0 0 = 5",
            "of 0 2 = 7", "turn 0 6 = BEYOND", "turn 0 -1 = BEYOND", "turn 1 0 = BEYOND", "of 0 0 = 5");

        begin("10 as");
        sixKinds(33);
        due("as 0 0 = 33", "as 1 0 = 33", "as 2 0 = 33", "as 3 0 = 33", "as 4 0 = 33", "as 5 0 = 33", "as 4 1 = 33",
            "as 5 2 = 33", "as 4 4 = 33", "as 3 3 = 33", "as 0 1 = KIND", "as 1 4 = KIND", "as 4 2 = KIND",
            "as 5 1 = KIND", "as 3 1 = KIND", "as 2 5 = KIND", "as 6 0 = BEYOND", "as 0 6 = BEYOND",
            "as 0 -1 = BEYOND", "as -1 0 = BEYOND", "status 2 = 6");
    }

    /** One of each kind, by its number, all of a rank. */
    private static void sixKinds(int rank) {
        for (int kind = 0; kind < 6; kind++) {
            ROWS.again(1, "person " + kind);
            ROWS.again(1, "set " + kind + " 1 " + rank);
        }
    }

    private static void loveOfAll(int love) {
        for (int person = 0; person < 6; person++) {
            ROWS.again(1, "set " + person + " 2 " + love);
        }
    }

    // ---- months

    private static void months() {
        begin("11 months: the lake");
        due("months 1 = 48", "months 1 = 43", "months 1 = 45", "months 9 = 33", "months 1 = 21", "months 0 = BEYOND",
            "months 121 = BEYOND", "months -1 = BEYOND", "now 0 = 13", "lake 0 999 = 21", "rain 1 99 = 7",
            "months 1 = 987", "lake 0 5 = 987", "rain 2 0 = 14", "months 1 = 0");
        begin("11 months: what herons drink");
        due("person 3 = 0", "person 3 = 1", "person 3 = 2", "set 1 4 1 = 0", "months 1 = 46");
        begin("11 months: a heron leaves a dry lake, and drinks to the last");
        due("person 3 = 0", "lake 0 13 = 60", "months 1 = 0", "of 0 4 = 1", "of 0 2 = 1", "lake 0 13 = 0",
            "rain 1 0 = 7", "months 1 = 1", "of 0 2 = 1");
        begin("11 months: writing");
        sixKinds(60);
        due("months 1 = 47", "of 0 3 = 1", "of 1 3 = 4", "of 2 3 = 2", "of 3 3 = 0", "of 4 3 = 6", "of 5 3 = 2",
            "lake 0 113 = 47", "months 1 = 107", "of 0 3 = 2", "of 1 3 = 8", "of 2 3 = 7", "of 3 3 = 1",
            "of 4 3 = 12", "of 5 3 = 10", "of 5 2 = 0");
        begin("11 months: ice by the month that goes");
        due("person 5 = 0", "lake 0 100 = 60", "months 1 = 88", "of 0 3 = 7", "months 1 = 83", "of 0 3 = 14",
            "months 1 = 85", "of 0 3 = 18");
        begin("11 months: love, by a lake that is none");
        sixKinds(20);
        due("lake 0 32 = 60", "months 1 = 19", "of 0 2 = 1", "of 1 2 = 5", "of 2 2 = 0", "of 3 2 = 1", "of 4 2 = 4",
            "of 5 2 = 0", "now 6 = 0", "lake 0 0 = 19", "months 1 = 0", "of 5 2 = 1", "of 2 2 = 0", "of 3 2 = 2",
            "of 3 4 = 1", "now 5 = 55");
        begin("11 months: love is 99 at most, and leaving is for good");
        due("person 4 = 0", "set 0 1 51 = 10", "set 0 2 97 = 0", "lake 0 0 = 60", "months 1 = 0", "of 0 2 = 99",
            "of 0 4 = 0", "person 1 = 1", "set 1 2 20 = 0", "months 1 = 0", "of 1 4 = 1", "of 1 2 = 25",
            "lake 0 500 = 0", "months 3 = 504", "of 1 4 = 1", "of 1 3 = 0", "of 1 2 = 25");
        begin("11 months: one with much love leaves a country, but writes first");
        due("person 0 = 0", "set 0 2 30 = 0", "months 1 = 48", "of 0 3 = 1", "of 0 4 = 1");
        begin("11 months: wrote is held to 9999");
        due("person 0 = 0", "set 0 3 9998 = 0", "months 1 = 48", "of 0 3 = 9999", "months 1 = 43", "of 0 3 = 9999");
        begin("11 months: no month above 9999");
        ROWS.again(83, "months 120");
        due("now 0 = 9960", "months 40 = STATE", "now 0 = 9960", "months 38 = 0", "months 2 = STATE",
            "months 121 = BEYOND", "months 1 = 2", "now 0 = 9999", "now 1 = 3", "months 1 = STATE", "status 4 = 3",
            "lake 0 100 = 2", "on 1 0 = 109", "on 240 0 = 2");

        begin("12 on");
        due("person 0 = 0", "person 3 = 1", "on 0 0 = 60", "on 0 1 = 0", "on 0 2 = 2", "on 1 0 = 47", "on 1 1 = 1",
            "on 240 0 = 0", "on 240 2 = 0", "on 241 0 = BEYOND", "on -1 0 = BEYOND", "on 0 3 = BEYOND",
            "on 0 -1 = BEYOND", "now 0 = 0", "now 2 = 60", "now 5 = 3", "now 6 = 0");

        begin("13 then");
        due("then 0 0 0 = BEYOND", "person 0 = 0", "then 0 0 0 = 0", "then 0 13 1 = 13", "then 0 13 0 = 0",
            "then 0 14 1 = 13", "then 0 14 0 = 1", "then 0 240 2 = 1", "then 0 0 2 = 0", "then 0 241 0 = BEYOND",
            "then 0 -1 0 = BEYOND", "then 0 0 3 = BEYOND", "then 0 0 -1 = BEYOND", "then 1 0 0 = BEYOND",
            "then -1 0 0 = BEYOND", "of 0 3 = 0", "of 0 4 = 0");

        begin("14 when");
        due("when 1 = 0", "when 0 = 14", "when 2 = BEYOND", "when -1 = BEYOND", "lake 1 0 = 12", "when 0 = NONE",
            "lake 0 0 = 60", "when 0 = 0", "when 1 = 3", "lake 1 99 = 0", "when 1 = NONE", "status 3 = 2");
        begin("14 when: 240 months on is the last");
        due("lake 0 259 = 60", "lake 1 1 = 12", "lays 0 = MISSING", "sheet 0 8 12 = 12", "lays 0 = 12",
            "when 0 = 240", "lake 0 260 = 259", "when 0 = NONE");

        begin("15 gone");
        due("gone 0 = BEYOND", "person 0 = 0", "lake 0 0 = 60", "lake 1 99 = 12", "gone 0 = 30", "set 0 4 1 = 0",
            "gone 0 = 0", "person 2 = 1", "gone 1 = NONE", "gone 2 = BEYOND", "gone -1 = BEYOND", "now 0 = 0");

        begin("15 gone, 16 empty: 240 months on is the last");
        due("person 0 = 0", "sheet 0 8 12 = 12", "lays 0 = 12", "lake 1 1 = 12", "lake 0 230 = 60", "gone 0 = 240",
            "empty = 240", "lake 0 231 = 230", "gone 0 = NONE", "empty = NONE");

        begin("16 empty");
        due("empty = 0", "person 0 = 0", "lake 0 0 = 60", "lake 1 99 = 12", "empty = 30", "person 1 = 1",
            "empty = 30", "set 0 4 1 = 0", "empty = 4", "set 1 4 1 = 0", "empty = 0", "person 2 = 2", "empty = NONE");
    }

    // ---- what is best

    private static void best() {
        begin("17 bears");
        due("bears 1 = 40", "bears 2 = 23", "bears 0 = BEYOND", "bears 61 = BEYOND", "bears -1 = BEYOND",
            "lake 0 999 = 60", "bears 1 = 99", "person 3 = 0", "lake 0 60 = 999", "bears 1 = 39", "lake 0 21 = 60",
            "bears 1 = 0", "lake 0 20 = 21", "bears 1 = NONE", "now 3 = 12");
        begin("17 bears: a lake that is no country now may be one behind the month");
        due("lake 0 0 = 60", "rain 0 25 = 0", "bears 1 = 5", "rain 1 99 = 7", "bears 2 = 5");

        begin("18 best");
        due("best 10 3 = 0", "person 0 = 0", "lake 0 25 = 60", "best 10 1 = 0", "months 1 = 13", "best 11 1 = 0",
            "best 12 1 = 1", "lake 0 18 = 13", "best 6 1 = 0", "best 7 1 = 1", "rain 1 99 = 7",
            "best 50 1 = 0", "best 1 1 = 0", "best 99 60 = 0", "best 0 1 = BEYOND", "best 100 1 = BEYOND",
            "best 1 0 = BEYOND", "best 1 61 = BEYOND", "rainOf 1 = 99");
        begin("18 best: 99 at most there");
        due("person 2 = 0", "rain 0 98 = 0", "rain 1 0 = 7", "lake 0 21 = 60", "lake 1 0 = 12", "best 99 2 = 1",
            "rain 0 0 = 98", "best 99 2 = 0");

        begin("19 kind");
        due("kind 0 1 = BEYOND", "person 2 = 0", "kind 0 1 = 4", "set 0 1 0 = 10", "kind 0 1 = 4", "lake 0 400 = 60",
            "kind 0 1 = 5", "months 2 = 383", "kind 0 1 = 2", "lake 0 25 = 383", "kind 0 1 = 0", "set 0 1 20 = 0",
            "kind 0 1 = 1", "set 0 4 1 = 0", "kind 0 60 = 0", "kind 0 0 = BEYOND", "kind 0 61 = BEYOND",
            "kind 1 1 = BEYOND", "of 0 0 = 2");

        begin("20 deep");
        due("deep 60 = 0", "person 3 = 0", "deep 1 = 14", "deep 2 = 20", "set 0 4 1 = 0", "deep 60 = 0",
            "person 0 = 1", "set 1 2 29 = 0", "deep 1 = 32", "set 1 2 30 = 29", "deep 1 = NONE", "deep 0 = BEYOND",
            "deep 61 = BEYOND", "now 2 = 60");
        begin("20 deep: 999 is the last");
        due("person 3 = 0", "sheet 0 8 12 = 12", "lays 0 = 12", "lake 1 99 = 12", "deep 9 = 901", "rain 5 2 = 0",
            "deep 10 = 999", "rain 5 1 = 2", "deep 10 = NONE");

        begin("21 recall");
        due("recall 1 = NONE", "person 4 = 0", "person 0 = 1", "person 2 = 2", "recall 1 = 1", "set 1 4 1 = 0",
            "set 1 3 500 = 0", "recall 1 = 2", "set 2 4 1 = 0", "recall 1 = 0", "set 0 4 1 = 0", "recall 1 = NONE",
            "recall 0 = BEYOND", "recall 61 = BEYOND", "set 0 4 0 = 1", "set 1 4 0 = 1", "recall 1 = 0",
            "set 1 3 0 = 500", "recall 1 = 1");
        begin("21 recall: a heron that does not drink");
        due("person 0 = 0", "person 3 = 1", "lake 0 32 = 60", "recall 1 = 1", "lake 0 33 = 32", "recall 1 = 1",
            "turn 1 0 = 3", "recall 1 = 0");

        begin("22 rank");
        due("rank 0 1 = BEYOND", "person 4 = 0", "set 0 2 30 = 0", "rank 0 1 = 51", "set 0 2 0 = 30",
            "rank 0 1 = 0", "lake 0 0 = 60", "lake 1 99 = 12", "rank 0 4 = 20", "rank 0 5 = 40",
            "rank 0 6 = 40", "rank 0 7 = 51", "turn 0 1 = 4", "rank 0 3 = 0", "rank 0 4 = NONE",
            "set 0 4 1 = 0", "turn 0 2 = 1", "rank 0 1 = NONE", "rank 0 0 = BEYOND", "rank 0 61 = BEYOND",
            "rank 1 1 = BEYOND", "of 0 1 = 10");

        begin("23 busiest");
        due("busiest 0 = NONE", "person 0 = 0", "person 0 = 1", "person 4 = 2", "busiest 0 = 0", "busiest 1 = 2",
            "set 1 3 3 = 0", "busiest 0 = 1", "busiest 1 = 1", "busiest 2 = 2", "set 1 4 1 = 0", "busiest 0 = 1",
            "busiest 1 = 1", "busiest 240 = 2", "busiest 241 = BEYOND", "busiest -1 = BEYOND");
    }

    // ---- the text

    private static void text() {
        begin("24 feed");
        due("feed 0 0 = BEYOND", "feed 0 5 = BEYOND", "feed 0 -1 = BEYOND", "feed -1 1 = 1", "text = -1",
            "feed 1684369524 4 = 4", "feed 1746940216 4 = 8", "text = 1", "now 2 = 18", "feed 1684369524 3 = 3",
            "text = -1");
        begin("24 feed: the highest first, of the lowest ones");
        due("feed 2037541989 3 = 3", "wipe = 3", "feed 1919907188 4 = 4", "wipe = 4", "feed 1885698148 2 = 2");
        told("pth 7", -1);
        begin("24 feed: 120 bytes");
        ROWS.again(29, "feed 538976288 4");
        due("feed 0 3 = 119", "feed 0 2 = FULL", "feed 0 5 = BEYOND", "count 1 = 119", "feed 0 1 = 120",
            "feed 0 1 = FULL", "wipe = 120", "feed 0 4 = 4", "status 1 = 2");

        begin("25 wipe");
        due("wipe = 0", "feed 97 3 = 3", "wipe = 3", "count 1 = 0", "wipe = 0");

        begin("26 text: all items");
        told("clerk;secretary rank 60;envoy love 3;heron rank 0 love 99;consul rank 99;minister", 6);
        due("count 0 = 6", "count 1 = 0", "of 0 0 = 0", "of 1 0 = 1", "of 2 0 = 2", "of 3 0 = 3", "of 4 0 = 4",
            "of 5 0 = 5", "of 0 1 = 10", "of 0 2 = 0", "of 1 1 = 60", "of 2 1 = 10", "of 2 2 = 3", "of 3 1 = 0",
            "of 3 2 = 99", "of 4 1 = 99", "of 5 4 = 0");
        told("depth 999; dries 99; rain 11 99; rain 0 1", 4);
        due("now 2 = 999", "now 3 = 99", "rainOf 11 = 99", "rainOf 0 = 1");
        told("depth 5;depth 0;dries 0", 3);
        due("now 2 = 0", "now 3 = 0", "status -1 = 0");
        begin("26 text: blanks, and none");
        told("  clerk   rank10love5  ;depth007;rain 2 3 ", 3);
        due("of 0 1 = 10", "of 0 2 = 5", "now 2 = 7", "rainOf 2 = 3");
        told("rain0011 000000000000000000000099", 1);
        due("rainOf 11 = 99");
        begin("26 text: faults");
        told("", -1);
        told("   ", -4);
        told("clerks", -1);
        told("clerka", -1);
        told("clerkz", -1);
        told("blerk", -1);
        told("cler", -1);
        told("clerk`", -6);
        told("clerk{", -6);
        told("clerk rank 1/", -13);
        told("clerk rank 1:", -13);
        told("Clerk", -1);
        told("clerk clerk", -7);
        told("clerk;", -7);
        told("clerk ; ", -9);
        told("clerk;;clerk", -7);
        told(";clerk", -1);
        told("clerk rank", -11);
        told("clerk rank 100", -12);
        told("clerk rank love", -12);
        told("clerk love 1 rank 1", -14);
        told("clerk rank 1 rank 2", -14);
        told("clerk love 100", -12);
        told("clerk 5", -7);
        told("depth", -6);
        told("depth 1000", -7);
        told("depth 99999999999999999999", -7);
        told("depth 4294967297", -7);
        told("depth -1", -7);
        told("dries", -6);
        told("dries;clerk", -6);
        told("dries 100", -7);
        told("rain", -5);
        told("rain;clerk", -5);
        told("rain 3;clerk", -7);
        told("rain 12 0", -6);
        told("rain 11", -8);
        told("rain 11 100", -9);
        told("rain 1,2", -7);
        told("depth 5.", -8);
        told("7", -1);
        told("clerk\t;clerk", -6);
        told("rank 5", -1);
        told("clerk;depth 5;rain 3 9;\u00e9", -24);
        due("count 0 = 0", "count 1 = 0", "now 2 = 60", "rainOf 3 = 21", "status -1 = 0");
        begin("26 text: the 9th");
        told("clerk;clerk;clerk;clerk;clerk;clerk;clerk", 7);
        told("heron; heron love 1", -8);
        due("count 0 = 7");
        told("heron;depth 9", 2);
        told("depth 8; envoy rank 1000", -10);
        due("count 0 = 8", "now 2 = 9", "of 7 0 = 3");
    }

    // ---- sheets

    private static void sheets() {
        begin("27 sheet");
        due("sheet 4 8 1 = BEYOND", "sheet -1 8 1 = BEYOND", "sheet 0 32 1 = BEYOND", "sheet 0 -8 1 = BEYOND",
            "sheet 0 32 -1 = BEYOND", "sheet 0 8 -1 = SIZE", "sheet 0 0 -1 = SIZE", "sheet 0 8 41 = BEYOND",
            "sheet 0 0 41 = BEYOND", "write 0 0 0 = MISSING", "sheet 0 8 40 = 40", "sheet 1 16 0 = 0",
            "sheet 2 64 3 = 3", "write 2 2 9 = 0", "sheet 2 64 -2147483648 = SIZE", "write 2 2 9 = 9",
            "sheet 2 64 3 = 3", "write 2 2 9 = 0", "sheet 2 0 3 = 0", "write 2 2 9 = MISSING", "sheet 2 64 2 = 2",
            "sheet 2 64 40 = 40", "write 2 2 0 = 0", "status 6 = 3", "status 5 = 2");

        begin("28 write");
        due("write 4 0 0 = BEYOND", "write -1 0 0 = BEYOND", "write 3 0 0 = MISSING", "write 3 -1 0 = MISSING",
            "sheet 3 8 2 = 2", "write 3 2 0 = BEYOND", "write 3 -1 0 = BEYOND", "write 3 1 127 = 0",
            "write 3 1 128 = 127", "write 3 1 511 = -128", "write 3 1 256 = -1", "write 3 1 0 = 0",
            "sheet 3 16 1 = 1", "write 3 0 32767 = 0", "write 3 0 32768 = 32767", "write 3 0 65536 = -32768",
            "write 3 0 0 = 0", "sheet 3 64 1 = 1", "write 3 0 9223372036854775807 = 0",
            "write 3 0 -9223372036854775808 = 9223372036854775807", "write 3 0 -1000000001 = -9223372036854775808",
            "write 3 0 0 = -1000000001", "status 0 = 4", "status 5 = 2");

        begin("29 copy");
        due("copy 4 0 0 0 0 = BEYOND", "copy 0 0 -1 0 0 = BEYOND", "copy 0 0 1 0 0 = MISSING", "sheet 0 16 5 = 5",
            "copy 0 0 1 0 0 = MISSING", "copy 1 0 0 0 0 = MISSING", "sheet 1 8 5 = 5", "copy 0 9 1 9 9 = KIND",
            "sheet 1 16 3 = 3", "write 0 0 1 = 0", "write 0 1 2 = 0", "write 0 2 3 = 0", "write 0 3 4 = 0",
            "write 0 4 5 = 0", "copy 0 0 0 1 4 = 4", "write 0 0 1 = 1", "write 0 1 1 = 1", "write 0 2 2 = 2",
            "write 0 3 3 = 3", "write 0 4 4 = 4", "copy 0 1 0 0 4 = 4", "write 0 0 1 = 1", "write 0 3 4 = 4",
            "copy 0 2 1 0 3 = 3", "write 1 0 3 = 3", "write 1 1 4 = 4", "write 1 2 4 = 4", "copy 0 0 1 0 4 = BEYOND",
            "copy 1 0 0 2 4 = BEYOND", "copy 0 3 1 0 3 = BEYOND", "copy 1 0 0 3 3 = BEYOND", "copy 0 5 1 3 0 = 0",
            "copy 0 6 1 0 0 = BEYOND", "copy 0 0 1 4 0 = BEYOND", "copy 0 -1 1 0 1 = BEYOND",
            "copy 0 0 1 -1 1 = BEYOND", "copy 0 0 1 0 -1 = BEYOND", "copy 0 2147483647 1 0 2147483647 = BEYOND",
            "copy 0 0 1 2147483647 1 = BEYOND", "write 1 0 3 = 3");

        begin("30 lays");
        due("lays 4 = BEYOND", "lays -1 = BEYOND", "lays 0 = MISSING", "sheet 0 64 4 = 4", "write 0 0 99 = 0",
            "write 0 1 100 = 0", "write 0 2 -1 = 0", "write 0 3 4294967297 = 0", "lays 0 = 1", "rainOf 0 = 99",
            "rainOf 1 = 7", "rainOf 2 = 14", "rainOf 3 = 21", "rainOf 4 = 5", "sheet 0 8 40 = 40", "write 0 12 50 = 0",
            "write 0 11 9 = 0", "lays 0 = 12", "count 3 = 9", "rainOf 11 = 9", "sheet 0 8 0 = 0", "lays 0 = 0");

        begin("31 book");
        due("book 4 = BEYOND", "book -1 = BEYOND", "book 1 = MISSING", "sheet 1 16 4 = 4", "book 1 = 4",
            "write 1 0 0 = 60", "write 1 1 0 = 48", "write 1 2 0 = 43", "write 1 3 0 = 45", "sheet 1 8 2 = 2",
            "lake 0 300 = 60", "book 1 = 2", "write 1 0 0 = 44", "write 1 1 0 = 32", "lake 0 200 = 300",
            "book 1 = 2", "write 1 0 0 = -56", "sheet 1 64 0 = 0", "book 1 = 0", "now 0 = 0", "now 2 = 200");

        begin("32 read");
        due("read 4 0 = BEYOND", "read -1 0 = BEYOND", "read 0 0 = MISSING", "read 0 9 = MISSING", "sheet 0 16 2 = 2",
            "read 0 0 = BEYOND", "person 0 = 0", "read 0 0 = 100", "write 0 1 1 = 0", "read 0 0 = 120",
            "write 0 1 2 = 1", "read 0 0 = 220", "write 0 1 3 = 2", "read 0 0 = 40", "write 0 1 5 = 3",
            "read 0 0 = 40", "write 0 0 1 = 0", "read 0 0 = 0", "sheet 0 8 0 = 0", "read 0 0 = 600",
            "read 0 1 = BEYOND", "read 0 -1 = BEYOND", "of 0 0 = 0", "of 0 1 = 10", "now 0 = 0");
    }

    // ---- images

    private static void images() {
        begin("33 image, 34 undo, 35 tear");
        due("undo = NONE", "person 1 = 0", "image = 1", "rain 4 44 = 5", "lake 1 3 = 12", "set 0 1 50 = 10",
            "set 0 2 9 = 0", "set 0 3 8 = 0", "set 0 4 1 = 0", "turn 0 3 = 1", "person 2 = 1", "months 5 = 131",
            "undo = 1", "rainOf 4 = 5", "now 0 = 0", "now 2 = 60", "now 3 = 12", "of 0 0 = 1", "of 0 1 = 10",
            "of 0 2 = 0", "of 0 3 = 0", "of 0 4 = 0", "of 1 0 = BEYOND", "lake 0 7 = 60", "undo = 1", "now 2 = 60",
            "lake 0 8 = 60", "image = 1", "lake 0 9 = 8", "undo = 1", "now 2 = 8", "tear = 1", "tear = 0",
            "undo = NONE", "now 2 = 8");
        begin("34 undo: the tape, the sheets and the findings stay");
        due("image = 1", "feed 97 2 = 2", "sheet 0 8 1 = 1", "write 0 0 5 = 0", "now 9 = BEYOND", "undo = 0",
            "count 1 = 2", "write 0 0 5 = 5", "status -1 = 1");

        begin("36 count");
        due("person 0 = 0", "person 0 = 1", "set 0 4 1 = 0", "feed 0 3 = 3", "rain 0 9 = 0", "count 0 = 2",
            "count 1 = 3", "count 2 = 1", "count 3 = 126", "count 4 = BEYOND", "count -1 = BEYOND");

        begin("37 status");
        due("status -2 = BEYOND", "status 7 = BEYOND", "status 0 = 2", "undo = NONE", "write 0 0 0 = MISSING",
            "sheet 0 8 -1 = SIZE", "status -1 = 5", "status 3 = 1", "status 5 = 1", "status 6 = 1", "status 1 = 0",
            "status 2 = 0", "status 4 = 0", "image = 1", "undo = 0", "tear = 1", "status -1 = 5");
    }
}
