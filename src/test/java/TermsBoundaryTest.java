/** Each sentence of the document's Terms that names a boundary, at it and on either side of it. */
public final class TermsBoundaryTest {
    private static final Rows ROWS = new Rows();

    public static void main(String[] args) {
        findings();
        order();
        refusals();
        refusalsOfFewPeople();
        numbers();
        lake();
        ice();
        people();
        writes();
        loves();
        leaves();
        monthOfTheLake();
        monthOfPeople();
        look();
        tape();
        tokens();
        items();
        faults();
        sheets();
        ROWS.end();
    }

    private static void sentence(String quote) {
        ROWS.sentence(0, quote);
    }

    private static void due(String... rows) {
        ROWS.due(rows);
    }

    private static void told(String text, long want) {
        ROWS.told(text, want);
    }

    /** No rain at all: then only what dries, and herons, change the depth. */
    private static void noRain() {
        for (int place = 0; place < 12; place++) {
            ROWS.again(1, "rain " + place + " 0");
        }
    }

    // ---- findings

    private static void findings() {
        sentence("FINDINGS are answers below -1000000000: -1000000001 BEYOND, -1000000002 FULL, -1000000003 KIND, "
            + "-1000000004 NONE, -1000000005 STATE, -1000000006 MISSING, -1000000007 SIZE (in longs, too).");
        ROWS.again(8, "person 0");
        ROWS.again(83, "months 120");
        due("now 7 = -1000000001", "person 0 = -1000000002", "as 0 1 = -1000000003", "undo = -1000000004",
            "months 40 = -1000000005", "lays 0 = -1000000006", "sheet 0 8 -1 = -1000000007",
            "write 4 0 0 = -1000000001", "write 0 0 0 = -1000000006", "status 0 = 2", "status 1 = 1", "status 2 = 1",
            "status 3 = 1", "status 4 = 1", "status 5 = 2", "status 6 = 1", "status -1 = 9");
    }

    private static void order() {
        sentence("Each act tells its findings in the order in which they are asked");
        due("recall 0 = BEYOND", "recall 61 = BEYOND", "recall 1 = NONE", "busiest -1 = BEYOND",
            "busiest 241 = BEYOND", "busiest 0 = NONE");
        due("sheet 4 8 -1 = BEYOND", "sheet 0 9 -1 = BEYOND", "sheet 0 8 -1 = SIZE", "sheet 0 8 41 = BEYOND");
        due("write 4 -1 0 = BEYOND", "write 0 -1 0 = MISSING", "read 4 9 = BEYOND", "read 2 9 = MISSING");
        due("copy 4 -1 0 -1 -1 = BEYOND", "copy 0 -1 4 -1 -1 = BEYOND", "copy 0 -1 1 -1 -1 = MISSING",
            "sheet 0 8 1 = 1", "copy 0 -1 1 -1 -1 = MISSING", "copy 1 -1 0 -1 -1 = MISSING", "sheet 1 16 1 = 1",
            "copy 0 -1 1 -1 -1 = KIND", "sheet 1 8 1 = 1", "copy 0 -1 1 -1 -1 = BEYOND");
        due("write 0 -1 0 = BEYOND", "read 0 9 = BEYOND", "person 0 = 0", "as 0 6 = BEYOND", "as 1 5 = BEYOND",
            "as 0 5 = KIND");
        ROWS.again(7, "person 0");
        due("person 6 = BEYOND", "person 5 = FULL");
        ROWS.again(30, "feed 0 4");
        due("feed 0 5 = BEYOND", "feed 0 0 = BEYOND", "feed 0 1 = FULL");
        sentence("Each act tells its findings in the order in which they are asked");
        ROWS.again(83, "months 120");
        due("months 39 = 2", "months 121 = BEYOND", "months 0 = BEYOND", "months 120 = STATE", "months 1 = STATE");
    }

    /** All that can be held is held, so that a refused call would have something to spoil. */
    private static void fullHouse() {
        told("clerk rank 20 love 3;secretary rank 60;envoy;heron;consul rank 51 love 40;rain 0 50", 6);
        due("image = 1", "person 5 = 5", "person 0 = 6", "person 1 = 7", "set 6 4 1 = 0", "set 5 3 77 = 0",
            "months 3 = 92", "sheet 0 8 3 = 3", "write 0 0 5 = 0", "write 0 2 -6 = 0", "sheet 1 16 40 = 40",
            "write 1 39 1000 = 0", "sheet 2 64 0 = 0");
        ROWS.feed("depth 777; dries 7; rain 4 44;");
        ROWS.feed(" ".repeat(120 - 30 - 7));
        ROWS.feed("depth 9");
        due("count 1 = 120");
    }

    private static void refusals() {
        sentence("one that answers a finding changes nothing but status()");
        fullHouse();
        due("lake 0 1000 = BEYOND", "lake 0 -1 = BEYOND", "lake 1 100 = BEYOND", "lake 1 -1 = BEYOND",
            "lake 2 0 = BEYOND", "lake -1 0 = BEYOND", "rain 12 0 = BEYOND", "rain -1 0 = BEYOND",
            "rain 0 100 = BEYOND", "rain 0 -1 = BEYOND", "rainOf 12 = BEYOND", "now 7 = BEYOND", "person 6 = BEYOND",
            "person 0 = FULL", "of 8 0 = BEYOND", "of 0 8 = BEYOND", "set 8 1 0 = BEYOND", "set 0 0 0 = BEYOND",
            "set 0 5 0 = BEYOND", "set 0 1 100 = BEYOND", "set 0 2 100 = BEYOND", "set 0 3 10000 = BEYOND",
            "set 0 4 2 = BEYOND", "set 0 4 -1 = BEYOND", "turn 8 0 = BEYOND", "turn 0 6 = BEYOND",
            "turn 0 -1 = BEYOND", "as 8 0 = BEYOND", "as 0 1 = KIND", "months 0 = BEYOND", "months 121 = BEYOND",
            "on 241 0 = BEYOND", "then 8 0 0 = BEYOND", "when 2 = BEYOND", "gone 8 = BEYOND", "gone 2 = NONE",
            "empty = NONE", "bears 61 = BEYOND", "best 100 1 = BEYOND", "kind 8 1 = BEYOND", "deep 61 = BEYOND",
            "recall 61 = BEYOND", "rank 8 1 = BEYOND", "rank 6 1 = NONE", "busiest 241 = BEYOND");
        due("feed 0 0 = BEYOND", "feed 0 5 = BEYOND", "feed 0 1 = FULL", "feed 0 4 = FULL", "sheet 4 8 1 = BEYOND",
            "sheet 0 7 1 = BEYOND", "sheet 0 8 -1 = SIZE", "sheet 0 0 -1 = SIZE", "sheet 0 8 41 = BEYOND",
            "sheet 0 0 41 = BEYOND", "write 4 0 9 = BEYOND", "write 3 0 9 = MISSING", "write 0 3 9 = BEYOND",
            "write 0 -1 9 = BEYOND", "copy 4 0 0 0 1 = BEYOND", "copy 0 0 3 0 1 = MISSING", "copy 0 0 1 0 1 = KIND",
            "copy 0 0 0 1 3 = BEYOND", "copy 0 1 0 0 3 = BEYOND", "copy 0 0 0 1 -1 = BEYOND", "lays 4 = BEYOND",
            "lays 3 = MISSING", "book 4 = BEYOND", "book 3 = MISSING", "read 4 0 = BEYOND", "read 3 0 = MISSING",
            "read 0 8 = BEYOND", "count 4 = BEYOND", "status 7 = BEYOND", "status -2 = BEYOND");
        due("lake 0 0 = 92", "lake 1 99 = 12", "when 1 = NONE", "bears 60 = 0", "rain 3 20 = 21",
            "bears 60 = NONE", "set 0 2 30 = 3", "deep 1 = NONE");
    }

    private static void refusalsOfFewPeople() {
        sentence("one that answers a finding changes nothing but status()");
        due("person 1 = 0", "lake 0 33 = 60", "image = 1", "lake 0 44 = 33", "tear = 1", "undo = NONE", "now 2 = 44",
            "set 0 4 1 = 0", "recall 1 = NONE");
        sentence("one that answers a finding changes nothing but status()");
        ROWS.feed("depth 7");
        due("image = 1", "lake 0 44 = 60", "sheet 0 8 1 = 1", "write 0 0 5 = 0", "busiest 0 = NONE",
            "recall 60 = NONE", "of 0 0 = BEYOND", "read 0 0 = BEYOND", "person 4 = 0", "set 0 4 1 = 0",
            "recall 1 = NONE", "set 0 4 0 = 1", "set 0 2 30 = 0", "deep 1 = NONE");
        ROWS.again(83, "months 120");
        due("lake 0 500 = 0", "months 40 = STATE", "months 120 = STATE", "now 2 = 500", "now 0 = 9960");
    }

    private static void numbers() {
        sentence("Quotients are cut.");
        due("person 1 = 0", "set 0 1 19 = 10", "of 0 5 = 1", "set 0 1 20 = 19", "of 0 5 = 2", "set 0 1 39 = 20",
            "of 0 5 = 2", "set 0 1 40 = 39", "of 0 5 = 3", "set 0 1 99 = 40", "of 0 5 = 5");
        sentence("Sets are told by bits.");
        due("now 5 = 0", "person 0 = 0", "now 5 = 1", "person 0 = 1", "now 5 = 3");
        ROWS.again(6, "person 0");
        due("now 5 = 255", "set 7 4 1 = 0", "now 5 = 127", "set 7 4 0 = 1");
        for (int person = 0; person < 7; person++) {
            ROWS.again(1, "set " + person + " 4 1");
        }
        due("now 5 = 128", "set 7 4 1 = 0", "now 5 = 0");
    }

    // ---- the lake

    private static void lake() {
        sentence("MONTH: 0 at first (9999 at most); of the year: its rest by 12.");
        due("now 0 = 0", "now 1 = 0", "months 11 = 37", "now 0 = 11", "now 1 = 11", "months 1 = 33", "now 0 = 12",
            "now 1 = 0", "months 1 = 21", "now 0 = 13", "now 1 = 1");
        sentence("MONTH: 0 at first (9999 at most); of the year: its rest by 12.");
        ROWS.again(83, "months 120");
        due("months 38 = 0", "now 0 = 9998", "now 1 = 2", "months 2 = STATE", "now 0 = 9998", "months 1 = 2",
            "now 0 = 9999", "now 1 = 3", "months 1 = STATE", "now 0 = 9999");
        sentence("DEPTH (0 to 999; 60 at first)");
        due("now 2 = 60", "lake 0 -1 = BEYOND", "lake 0 0 = 60", "lake 0 1 = 0", "lake 0 998 = 1", "lake 0 999 = 998",
            "lake 0 1000 = BEYOND", "now 2 = 999");
        sentence("DRIES (0 to 99 a month; 12 at first)");
        due("now 3 = 12", "lake 1 -1 = BEYOND", "lake 1 0 = 12", "lake 1 1 = 0", "lake 1 98 = 1", "lake 1 99 = 98",
            "lake 1 100 = BEYOND", "now 3 = 99");
        sentence("RAIN: 12 numbers (0 to 99; of place i at first the rest of 7 times i by 23).");
        due("rainOf -1 = BEYOND", "rainOf 0 = 0", "rainOf 1 = 7", "rainOf 2 = 14", "rainOf 3 = 21", "rainOf 4 = 5",
            "rainOf 5 = 12", "rainOf 6 = 19", "rainOf 7 = 3", "rainOf 8 = 10", "rainOf 9 = 17", "rainOf 10 = 1",
            "rainOf 11 = 8", "rainOf 12 = BEYOND", "rain 0 -1 = BEYOND", "rain 0 1 = 0", "rain 0 0 = 1",
            "rain 0 98 = 0", "rain 0 99 = 98", "rain 0 100 = BEYOND", "rainOf 0 = 99", "rain 11 99 = 8",
            "rain 11 100 = BEYOND", "rainOf 11 = 99");
        sentence("COUNTRY: there is one while DEPTH is 20 or more.");
        due("lake 0 0 = 60", "now 4 = 0", "lake 0 19 = 0", "now 4 = 0", "lake 0 20 = 19", "now 4 = 1",
            "lake 0 21 = 20", "now 4 = 1");
    }

    private static void ice() {
        sentence("ICE: at months of the year 0, 1 and 11, if DEPTH is 50 or more.");
        due("lake 0 49 = 60", "now 4 = 1", "lake 0 50 = 49", "now 4 = 2", "lake 0 51 = 50", "now 4 = 2");
        due("months 1 = 39", "lake 0 49 = 39", "now 4 = 1", "lake 0 50 = 49", "now 4 = 2");
        due("months 1 = 45", "lake 0 50 = 45", "now 4 = 1", "lake 0 999 = 50", "now 4 = 1");
        due("months 8 = 981", "now 1 = 10", "now 4 = 1", "months 1 = 970", "now 1 = 11", "now 4 = 2",
            "lake 0 49 = 970", "now 4 = 1", "lake 0 50 = 49", "now 4 = 2");
        due("months 1 = 46", "now 1 = 0", "now 4 = 1", "lake 0 50 = 46", "now 4 = 2");
        sentence("ICE: at months of the year 0, 1 and 11, if DEPTH is 50 or more.");
        noRain();
        due("lake 1 0 = 12", "now 4 = 2");
        int[] iceOf = {2, 1, 1, 1, 1, 1, 1, 1, 1, 1, 2, 2};
        for (int month = 0; month < 12; month++) {
            due("months 1 = 60", "now 4 = " + iceOf[month]);
        }
    }

    // ---- people

    private static void people() {
        sentence("PEOPLE 0, 1, .. (at most 8)");
        ROWS.again(6, "person 0");
        due("person 1 = 6", "of 7 0 = BEYOND", "person 2 = 7", "of 7 0 = 2", "count 0 = 8", "person 3 = FULL",
            "of 8 0 = BEYOND", "set 0 4 1 = 0", "person 3 = FULL", "count 0 = 8");
        sentence("are of KINDS: 0 CLERK, 1 SECRETARY under CLERK, 2 ENVOY under CLERK, 3 HERON under CLERK, "
            + "4 CONSUL under SECRETARY, 5 MINISTER under ENVOY");
        due("person -1 = BEYOND", "person 0 = 0", "person 5 = 1", "person 6 = BEYOND", "turn 0 -1 = BEYOND",
            "turn 0 5 = 0", "turn 0 0 = 5", "turn 0 6 = BEYOND", "count 0 = 2");
        sentence("RANK (0 to 99; 10 at first)");
        due("person 0 = 0", "of 0 1 = 10", "set 0 1 -1 = BEYOND", "set 0 1 0 = 10", "set 0 1 1 = 0", "set 0 1 98 = 1",
            "set 0 1 99 = 98", "set 0 1 100 = BEYOND", "of 0 1 = 99");
        sentence("LOVE (0 to 99; 0 at first)");
        due("person 0 = 0", "of 0 2 = 0", "set 0 2 -1 = BEYOND", "set 0 2 1 = 0", "set 0 2 0 = 1", "set 0 2 98 = 0",
            "set 0 2 99 = 98", "set 0 2 100 = BEYOND", "of 0 2 = 99");
        sentence("GONE (1) or not (0; at first)");
        due("person 0 = 0", "of 0 4 = 0", "set 0 4 -1 = BEYOND", "set 0 4 0 = 0", "set 0 4 1 = 0", "set 0 4 2 = BEYOND",
            "of 0 4 = 1", "set 0 4 0 = 1", "of 0 4 = 0");
        sentence("WROTE (dispatches; 0 at first, held to 9999)");
        due("person 4 = 0", "lake 1 0 = 12", "of 0 3 = 0", "set 0 3 -1 = BEYOND", "set 0 3 10000 = BEYOND",
            "set 0 3 9995 = 0", "months 1 = 60", "of 0 3 = 9998", "months 1 = 67", "of 0 3 = 9999", "months 1 = 81",
            "of 0 3 = 9999", "set 0 3 9996 = 9999", "months 1 = 102", "of 0 3 = 9999", "set 0 3 9999 = 9999",
            "then 0 240 1 = 9999", "on 240 1 = 9999");
    }

    private static void writes() {
        sentence("WRITES (in a month in which there is a COUNTRY of DEPTH d): CLERK: 1.");
        due("person 0 = 0", "lake 0 32 = 60", "months 1 = 20", "of 0 3 = 1", "of 0 2 = 0", "lake 0 24 = 20",
            "months 1 = 19", "of 0 3 = 1", "of 0 2 = 1", "months 1 = 21", "of 0 3 = 2", "of 0 2 = 1");
        sentence("SECRETARY: as CLERK, and a twentieth of RANK.");
        due("person 1 = 0", "set 0 1 0 = 10", "of 0 5 = 1", "set 0 1 19 = 0", "months 1 = 48", "of 0 3 = 1",
            "set 0 1 20 = 19", "of 0 5 = 2", "months 1 = 43", "of 0 3 = 3", "set 0 1 21 = 20", "of 0 5 = 2");
        sentence("ENVOY: a twentieth of d.");
        due("person 2 = 0", "lake 0 0 = 60", "of 0 5 = 0", "lake 0 19 = 0", "of 0 5 = 0", "lake 0 20 = 19",
            "of 0 5 = 1", "lake 0 39 = 20", "of 0 5 = 1", "lake 0 40 = 39", "of 0 5 = 2", "lake 0 999 = 40",
            "of 0 5 = 49", "lake 0 51 = 999", "months 1 = 39", "of 0 3 = 1", "lake 0 45 = 39", "months 1 = 40",
            "of 0 3 = 3");
        sentence("HERON: 1, if d is 100 or more, else 0.");
        due("person 3 = 0", "lake 0 99 = 60", "of 0 5 = 0", "lake 0 100 = 99", "of 0 5 = 1", "lake 0 101 = 100",
            "of 0 5 = 1", "lake 0 112 = 101", "months 1 = 99", "of 0 3 = 0", "lake 0 106 = 99", "months 1 = 100",
            "of 0 3 = 1");
        sentence("CONSUL: as SECRETARY, and 2, if d is above 40.");
        due("person 4 = 0", "lake 0 40 = 60", "of 0 5 = 1", "lake 0 41 = 40", "of 0 5 = 3", "lake 0 42 = 41",
            "of 0 5 = 3", "set 0 1 20 = 10", "of 0 5 = 4", "set 0 1 19 = 20", "lake 0 52 = 42", "months 1 = 40",
            "of 0 3 = 1", "lake 0 46 = 40", "months 1 = 41", "of 0 3 = 4");
        sentence("MINISTER: as ENVOY, and 3 in ICE.");
        due("person 5 = 0", "lake 0 19 = 60", "of 0 5 = 0", "lake 0 49 = 19", "of 0 5 = 2", "lake 0 50 = 49",
            "of 0 5 = 5", "lake 0 51 = 50", "of 0 5 = 5", "lake 0 61 = 51", "months 1 = 49", "of 0 3 = 2",
            "lake 0 55 = 49", "months 1 = 50", "of 0 3 = 7", "of 0 5 = 2");
    }

    private static void loves() {
        sentence("LOVES (how much LOVE is more, in a month in which there is none, of DEPTH d): CLERK: 1.");
        due("person 0 = 0", "of 0 6 = 1", "lake 0 31 = 60", "months 1 = 19", "of 0 2 = 1", "lake 0 25 = 19",
            "months 1 = 20", "of 0 2 = 1", "of 0 6 = 1");
        sentence("SECRETARY: as CLERK, and 4. ENVOY: 0. HERON: as CLERK.");
        due("person 1 = 0", "person 2 = 1", "person 3 = 2", "of 0 6 = 5", "of 1 6 = 0", "of 2 6 = 1",
            "lake 0 32 = 60", "months 1 = 19", "of 0 2 = 5", "of 1 2 = 0", "of 2 2 = 1", "now 5 = 7");
        sentence("CONSUL: as SECRETARY, less a twentieth of RANK (0 at least).");
        due("person 4 = 0", "set 0 1 0 = 10", "of 0 6 = 5", "set 0 1 19 = 0", "of 0 6 = 5", "set 0 1 20 = 19",
            "of 0 6 = 4", "set 0 1 79 = 20", "of 0 6 = 2", "set 0 1 80 = 79", "of 0 6 = 1", "set 0 1 99 = 80",
            "of 0 6 = 1", "lake 0 0 = 60", "months 1 = 0", "of 0 2 = 1");
        sentence("MINISTER: as ENVOY, and 1, if d is 0.");
        due("person 5 = 0", "lake 0 1 = 60", "of 0 6 = 0", "lake 0 0 = 1", "of 0 6 = 1", "lake 0 13 = 0",
            "months 1 = 1", "of 0 2 = 0", "lake 0 5 = 1", "months 1 = 0", "of 0 2 = 1");
    }

    private static void leaves() {
        sentence("CLERK: if LOVE is 30 or more.");
        due("person 0 = 0", "set 0 2 29 = 0", "of 0 7 = 0", "set 0 2 30 = 29", "of 0 7 = 1", "set 0 2 31 = 30",
            "of 0 7 = 1", "lake 0 0 = 60", "of 0 7 = 1", "set 0 2 29 = 31", "of 0 7 = 0");
        sentence("SECRETARY: as CLERK, or if it is 20 or more and there is no COUNTRY.");
        due("person 1 = 0", "lake 0 19 = 60", "set 0 2 19 = 0", "of 0 7 = 0", "set 0 2 20 = 19", "of 0 7 = 1",
            "set 0 2 21 = 20", "of 0 7 = 1", "lake 0 20 = 19", "of 0 7 = 0", "set 0 2 29 = 21", "of 0 7 = 0",
            "set 0 2 30 = 29", "of 0 7 = 1");
        sentence("ENVOY: never.");
        due("person 2 = 0", "set 0 2 99 = 0", "of 0 7 = 0", "lake 0 0 = 60", "of 0 7 = 0", "gone 0 = NONE",
            "set 0 1 0 = 10", "gone 0 = NONE");
        sentence("HERON: if DEPTH is 0.");
        due("person 3 = 0", "lake 0 1 = 60", "set 0 2 99 = 0", "of 0 7 = 0", "lake 0 0 = 1", "of 0 7 = 1",
            "set 0 2 0 = 99", "of 0 7 = 1", "lake 0 14 = 0", "months 1 = 1", "of 0 4 = 0", "lake 0 6 = 1",
            "months 1 = 0", "of 0 4 = 1");
        sentence("CONSUL: as SECRETARY, but never with a RANK above 50.");
        due("person 4 = 0", "set 0 2 30 = 0", "set 0 1 49 = 10", "of 0 7 = 1", "set 0 1 50 = 49", "of 0 7 = 1",
            "set 0 1 51 = 50", "of 0 7 = 0", "set 0 2 99 = 30", "of 0 7 = 0", "lake 0 0 = 60", "of 0 7 = 0",
            "set 0 1 50 = 51", "lake 0 19 = 0", "set 0 2 19 = 99", "of 0 7 = 0", "set 0 2 20 = 19", "of 0 7 = 1",
            "lake 0 20 = 19", "of 0 7 = 0", "set 0 2 29 = 20", "of 0 7 = 0");
        sentence("MINISTER: as ENVOY, or if LOVE is 5 or more.");
        due("person 5 = 0", "set 0 2 4 = 0", "of 0 7 = 0", "set 0 2 5 = 4", "of 0 7 = 1", "set 0 2 6 = 5",
            "of 0 7 = 1", "lake 0 0 = 60", "of 0 7 = 1", "set 0 2 4 = 6", "of 0 7 = 0");
        sentence("LEAVES (for good, behind a month, by LOVE and DEPTH as they are then)");
        due("person 0 = 0", "person 0 = 1", "set 0 2 28 = 0", "set 1 2 29 = 0", "lake 0 31 = 60", "months 1 = 19",
            "of 0 2 = 29", "of 0 4 = 0", "of 1 2 = 30", "of 1 4 = 1", "lake 0 999 = 19", "set 1 2 0 = 30",
            "months 1 = 987", "of 1 4 = 1", "of 1 3 = 0", "of 0 3 = 1", "of 0 4 = 0");
    }

    // ---- a month

    private static void monthOfTheLake() {
        sentence("DRINKS (inches a month): CLERK, and all but HERON: 0. HERON: 1.");
        due("person 0 = 0", "person 1 = 1", "person 2 = 2", "person 4 = 3", "person 5 = 4", "months 1 = 48",
            "person 3 = 5", "months 1 = 42", "person 3 = 6", "months 1 = 42", "set 5 4 1 = 0", "months 1 = 50",
            "set 6 4 1 = 0", "months 1 = 43");
        sentence("DRINKS (inches a month): CLERK, and all but HERON: 0. HERON: 1.");
        ROWS.again(8, "person 3");
        due("months 1 = 40", "lake 0 13 = 40", "months 1 = 0", "now 5 = 0", "lake 0 13 = 0", "months 1 = 15");
        sentence("DEPTH is RAIN of the month of the year more (999 at most)");
        due("lake 1 0 = 12", "rain 0 99 = 0", "lake 0 899 = 60", "months 1 = 998", "rain 1 1 = 7", "months 1 = 999",
            "rain 2 1 = 14", "months 1 = 999", "lake 1 12 = 0", "months 1 = 987");
        sentence("then DRIES, and what those that aren't GONE DRINK, less (0 at least).");
        noRain();
        due("lake 0 13 = 60", "months 1 = 1", "lake 0 12 = 1", "months 1 = 0", "lake 0 11 = 0", "months 1 = 0",
            "person 3 = 0", "lake 0 14 = 0", "months 1 = 1", "of 0 4 = 0", "lake 0 13 = 1", "months 1 = 0",
            "of 0 4 = 1", "lake 0 13 = 0", "months 1 = 1");
    }

    private static void monthOfPeople() {
        sentence("else LOVE is what it LOVES more (99 at most).");
        noRain();
        due("person 4 = 0", "set 0 1 51 = 10", "lake 0 0 = 60", "set 0 2 95 = 0", "months 1 = 0", "of 0 2 = 98",
            "set 0 2 96 = 98", "months 1 = 0", "of 0 2 = 99", "set 0 2 97 = 99", "months 1 = 0", "of 0 2 = 99",
            "months 1 = 0", "of 0 2 = 99", "of 0 4 = 0");
        sentence("by the DEPTH that is so, PEOPLE by numbers that aren't GONE");
        due("person 0 = 0", "person 0 = 1", "set 1 4 1 = 0", "months 1 = 48", "of 0 3 = 1", "of 1 3 = 0",
            "lake 0 24 = 48", "months 1 = 19", "of 0 2 = 1", "of 1 2 = 0");
        sentence("If it LEAVES then, it is GONE. MONTH is 1 more. (ICE by the month that goes.)");
        noRain();
        due("lake 1 0 = 12", "person 5 = 0", "months 1 = 60", "of 0 3 = 6", "months 1 = 60", "of 0 3 = 12",
            "months 1 = 60", "of 0 3 = 15", "months 7 = 60", "of 0 3 = 36", "now 1 = 10", "months 1 = 60",
            "of 0 3 = 39", "months 1 = 60", "of 0 3 = 45", "months 1 = 60", "of 0 3 = 51", "now 0 = 13",
            "set 0 2 5 = 0", "of 0 4 = 0", "months 1 = 60", "of 0 4 = 1", "of 0 3 = 57", "months 1 = 60",
            "of 0 3 = 57");
    }

    private static void look() {
        sentence("ON: n MONTHS go on with all as it is; nothing changes.");
        fullHouse();
        // A year brings 167 inches, dries 144, and the heron drinks 12.
        due("on 240 0 = 312", "then 1 240 2 = 0", "when 0 = NONE", "gone 1 = NONE", "bears 1 = 92", "best 99 1 = 3",
            "busiest 240 = 5", "now 0 = 3", "now 2 = 92", "lake 0 0 = 92", "lake 1 99 = 12", "on 240 0 = 0",
            "then 1 4 2 = 1", "when 1 = NONE", "gone 1 = 4", "gone 3 = 1", "on 1 2 = 6", "of 1 4 = 0", "of 3 4 = 0");
    }

    // ---- the text

    private static void tape() {
        sentence("from THE TAPE (bytes, at most 120)");
        ROWS.feed("depth 7" + " ".repeat(109));
        due("count 1 = 116", "feed 538976288 4 = 120", "feed 32 1 = FULL", "count 1 = 120", "text = 1", "now 2 = 7");
        sentence("from THE TAPE (bytes, at most 120)");
        ROWS.feed("depth 7" + " ".repeat(110));
        due("feed 538976288 4 = FULL", "count 1 = 117", "feed 2105376 3 = 120", "feed 0 1 = FULL", "text = 1",
            "feed 0 4 = 4");
        sentence("from THE TAPE (bytes, at most 120)");
        ROWS.feed("depth 7" + " ".repeat(112));
        due("feed 0 2 = FULL", "count 1 = 119", "feed 32 1 = 120", "wipe = 120", "feed 0 1 = 1");
    }

    private static void tokens() {
        sentence("TOKENS, each as long as can be");
        told("clerkrank 5", -1);
        told("clerk rank10love5", 1);
        told("rain 1 12", 1);
        told("rain 11 2", 1);
        told("rain 112", -6);
        told("depth12", 1);
        due("of 0 1 = 10", "of 0 2 = 5", "rainOf 1 = 12", "rainOf 11 = 2", "now 2 = 12");
        sentence("WORDS (letters a to z)");
        told("clerk`", -6);
        told("clerka", -1);
        told("clerkz", -1);
        told("clerk{", -6);
        told("clerkA", -6);
        told("clerkZ", -6);
        told("Clerk", -1);
        told("clerk", 1);
        sentence("NUMBERS (digits, 999 at most)");
        told("depth 1/", -8);
        told("depth 10", 1);
        told("depth 19", 1);
        told("depth 1:", -8);
        told("depth 998", 1);
        told("depth 999", 1);
        told("depth 1000", -7);
        told("depth 9990", -7);
        told("depth" + "9".repeat(115), -6);
        told("depth 4294967296", -7);
        told("depth 18446744073709551616", -7);
        due("now 2 = 999");
        sentence("SIGN ;");
        told("clerk:clerk", -6);
        told("clerk<clerk", -6);
        told("clerk;clerk", 2);
        sentence("blanks may stand between");
        told("clerk;clerk", 2);
        told("clerk  ;   clerk   rank    1", 2);
        for (char byteOfNone : new char[] {0, 9, 10, 11, 12, 13, 31, 33, 127, 128, 160, 255}) {
            told("clerk" + byteOfNone + ";clerk", -6);
        }
    }

    private static void items() {
        sentence("TEXT: ITEM { ; ITEM }.");
        told("", -1);
        told(";", -1);
        told("dries 1", 1);
        told("dries 1;", -9);
        told("dries 2;;dries 3", -9);
        told("dries 2 dries 3", -9);
        told("dries 2;dries 3", 2);
        told("clerk;".repeat(8) + "depth0;".repeat(9) + "depth5", 18);
        due("now 3 = 3", "now 2 = 5", "count 0 = 8");
        sentence("perhaps rank and a NUMBER (0 to 99), perhaps love and a NUMBER (0 to 99): one more");
        told("clerk", 1);
        told("clerk rank 0", 1);
        told("clerk rank 99", 1);
        told("clerk rank 100", -12);
        told("clerk love 1", 1);
        told("clerk love 99", 1);
        told("clerk love 100", -12);
        told("clerk rank 98 love 98", 1);
        told("clerk rank 1 love 100", -19);
        told("clerk love 1 rank 1", -14);
        told("clerk rank 1 rank 1", -14);
        told("clerk love 1 love 1", -14);
        due("count 0 = 6", "of 0 1 = 10", "of 0 2 = 0", "of 1 1 = 0", "of 2 1 = 99", "of 3 1 = 10", "of 3 2 = 1",
            "of 4 2 = 99", "of 5 1 = 98", "of 5 2 = 98");
        sentence("depth and a NUMBER (0 to 999)");
        told("depth 0", 1);
        due("now 2 = 0");
        told("depth 999", 1);
        told("depth 1000", -7);
        due("now 2 = 999");
        sentence("dries and a NUMBER (0 to 99)");
        told("dries 0", 1);
        due("now 3 = 0");
        told("dries 99", 1);
        told("dries 100", -7);
        due("now 3 = 99");
        sentence("rain, a NUMBER (0 to 11), a NUMBER (0 to 99)");
        told("rain 0 99", 1);
        told("rain 11 0", 1);
        told("rain 12 0", -6);
        told("rain 10 100", -9);
        due("rainOf 0 = 99", "rainOf 11 = 0", "rainOf 10 = 1");
    }

    private static void faults() {
        sentence("FAULT: the place (from 0) of the first byte of the first TOKEN that can't stand there");
        told("clerk; depth 5; 7 8", -17);
        told("; depth 1000", -1);
        told("depth depth", -7);
        sentence("a NUMBER that may not be");
        told("depth 1000", -7);
        told("dries  100", -8);
        told("rain 12 100", -6);
        told("rain 11 100", -9);
        told("clerk 5", -7);
        told("5", -1);
        sentence("another WORD");
        told("lake 5", -1);
        told("clerk lake", -7);
        told("depth clerk", -7);
        told("rain 3 love", -8);
        told("rank 5", -1);
        told("love 5", -1);
        told("cler", -1);
        told("clerks", -1);
        for (String name : new String[] {"clerk", "secretary", "envoy", "heron", "consul", "minister"}) {
            told("x" + name.substring(1), -1);
            told(name.substring(0, name.length() - 1) + "x", -1);
            told(name + name, -1);
        }
        due("count 0 = 0");
        sentence("a byte that begins no TOKEN");
        told("#", -1);
        told("clerk; #", -8);
        told("depth -5", -7);
        told("depth 5#", -8);
        told("clerk rank 5 \u00e9", -14);
        sentence("the name of a KIND for a 9th: its own");
        told("clerk;clerk;clerk;clerk;clerk;clerk;clerk;clerk;clerk", -49);
        due("count 0 = 0");
        told("clerk;clerk;clerk;clerk;clerk;clerk;clerk;clerk;depth 3", 9);
        told("depth 4; heron rank 1000", -10);
        told("heron", -1);
        told("depth 5", 1);
        due("count 0 = 8", "now 2 = 5");
        sentence("or how many bytes there are if it ends too early.");
        told("", -1);
        told("depth", -6);
        told("depth  ", -8);
        told("dries", -6);
        told("rain", -5);
        told("rain 3", -7);
        told("clerk rank", -11);
        told("clerk love", -11);
        told("clerk;", -7);
        told("clerk;" + " ".repeat(109) + "depth", -121);
        due("status -1 = 0");
    }

    // ---- sheets

    private static void sheets() {
        sentence("SHEETS 0 to 3 are rows of at most 40 numbers of 8, 16 or 64 bits, or MISSING (at first).");
        due("write -1 0 0 = BEYOND", "write 0 0 0 = MISSING", "write 1 0 0 = MISSING", "write 2 0 0 = MISSING",
            "write 3 0 0 = MISSING", "write 4 0 0 = BEYOND", "sheet -1 8 1 = BEYOND", "sheet 0 8 39 = 39",
            "sheet 3 64 40 = 40", "sheet 4 8 1 = BEYOND", "sheet 3 64 41 = BEYOND", "write 3 39 1 = 0",
            "write 3 40 1 = BEYOND", "write 0 38 1 = 0", "write 0 39 1 = BEYOND");
        for (int bits : new int[] {-64, -16, -8, -1, 1, 7, 9, 15, 17, 24, 32, 63, 65, 128}) {
            due("sheet 0 " + bits + " 1 = BEYOND");
        }
        due("sheet 0 16 1 = 1", "sheet 0 0 1 = 0", "sheet 0 8 1 = 1");
    }
}
