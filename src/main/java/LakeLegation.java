/** A legation to a lake that is a country while it is deep enough; ../shared/DOC.md tells what each call promises. */
public final class LakeLegation {
    private static final int BEYOND = -1000000001;
    private static final int FULL = -1000000002;
    private static final int KIND = -1000000003;
    private static final int NONE = -1000000004;
    private static final int STATE = -1000000005;
    private static final int MISSING = -1000000006;
    private static final int SIZE = -1000000007;
    private static final int FINDINGS = 7;

    private static final int CLERK = 0;
    private static final int SECRETARY = 1;
    private static final int ENVOY = 2;
    private static final int HERON = 3;
    private static final int CONSUL = 4;
    private static final int MINISTER = 5;
    private static final int KINDS = 6;
    private static final int NO_KIND = -1;
    private static final int[] KIND_ABOVE = {NO_KIND, CLERK, CLERK, CLERK, SECRETARY, ENVOY};

    private static final int PLACES = 12;
    private static final int MOST_PEOPLE = 8;
    private static final int MOST_DEPTH = 999;
    private static final int MOST_WROTE = 9999;
    private static final int MOST_MONTH = 9999;
    // Of rain, dries, rank and love alike.
    private static final int MOST_SMALL = 99;
    // How many months may go at once, how far on one may look, and how far on the best is sought.
    private static final int MOST_GOING = 120;
    private static final int FAR = 240;
    private static final int NEAR = 60;
    private static final int MOST_BYTES = 120;
    private static final int SHEETS = 4;
    private static final int MOST_NUMBERS = 40;

    private final Legation live;
    // Every look ahead goes on in this one, so that no call has to make an object.
    private final Legation trial;
    private final Legation kept;
    private boolean isKept;
    private final Tape tape;
    private final Sheet[] sheets;
    private final int[] findings;

    public LakeLegation() {
        live = new Legation();
        trial = new Legation();
        kept = new Legation();
        isKept = false;
        tape = new Tape();
        sheets = new Sheet[SHEETS];
        for (int s = 0; s < SHEETS; s++) {
            sheets[s] = new Sheet();
        }
        findings = new int[FINDINGS];
    }

    // ---- the lake

    public int lake(int what, int v) {
        if (what == 0 && within(v, 0, MOST_DEPTH)) {
            int was = live.depth;
            live.depth = v;
            return was;
        }
        if (what == 1 && within(v, 0, MOST_SMALL)) {
            int was = live.dries;
            live.dries = v;
            return was;
        }
        return finding(BEYOND);
    }

    public int rain(int place, int v) {
        if (!isPlace(place) || !within(v, 0, MOST_SMALL)) {
            return finding(BEYOND);
        }
        int was = live.rains[place];
        live.rains[place] = v;
        return was;
    }

    public int rainOf(int place) {
        return isPlace(place) ? live.rains[place] : finding(BEYOND);
    }

    public int now(int what) {
        switch (what) {
            case 0:
                return live.month;
            case 1:
                return live.monthOfYear();
            case 2:
                return live.depth;
            case 3:
                return live.dries;
            case 4:
                return countryNow();
            case 5:
                return live.thereAsSet();
            case 6:
                return live.wroteTogether();
            default:
                return finding(BEYOND);
        }
    }

    private int countryNow() {
        if (live.isIcy()) {
            return 2;
        }
        return live.isCountry() ? 1 : 0;
    }

    // ---- people

    public int person(int kind) {
        if (!isKind(kind)) {
            return finding(BEYOND);
        }
        if (live.isFull()) {
            return finding(FULL);
        }
        return live.welcome(kind);
    }

    public int of(int person, int what) {
        if (!isPerson(person)) {
            return finding(BEYOND);
        }
        switch (what) {
            case 0:
                return live.kinds[person];
            case 1:
                return live.ranks[person];
            case 2:
                return live.loves[person];
            case 3:
                return live.wrotes[person];
            case 4:
                return live.gones[person];
            case 5:
                return live.writesOf(person);
            case 6:
                return live.lovesOf(person);
            case 7:
                return live.isLeaving(person) ? 1 : 0;
            default:
                return finding(BEYOND);
        }
    }

    public int set(int person, int what, int v) {
        if (!isPerson(person)) {
            return finding(BEYOND);
        }
        switch (what) {
            case 1:
                return setIn(live.ranks, person, v, MOST_SMALL);
            case 2:
                return setIn(live.loves, person, v, MOST_SMALL);
            case 3:
                return setIn(live.wrotes, person, v, MOST_WROTE);
            case 4:
                return setIn(live.gones, person, v, 1);
            default:
                return finding(BEYOND);
        }
    }

    private int setIn(int[] row, int person, int v, int most) {
        if (!within(v, 0, most)) {
            return finding(BEYOND);
        }
        int was = row[person];
        row[person] = v;
        return was;
    }

    public int turn(int person, int kind) {
        if (!isPerson(person) || !isKind(kind)) {
            return finding(BEYOND);
        }
        int was = live.kinds[person];
        live.kinds[person] = kind;
        return was;
    }

    public int as(int person, int kind) {
        if (!isPerson(person) || !isKind(kind)) {
            return finding(BEYOND);
        }
        return isUnder(live.kinds[person], kind) ? live.ranks[person] : finding(KIND);
    }

    private static boolean isUnder(int kind, int above) {
        int k = kind;
        for (int step = 0; step < KINDS && isKind(k); step++) {
            if (k == above) {
                return true;
            }
            k = KIND_ABOVE[k];
        }
        return false;
    }

    // ---- months

    public int months(int n) {
        if (!within(n, 1, MOST_GOING)) {
            return finding(BEYOND);
        }
        if (live.month + n > MOST_MONTH) {
            return finding(STATE);
        }
        live.goMonths(n);
        return live.depth;
    }

    public int on(int n, int what) {
        if (!within(n, 0, FAR) || !within(what, 0, 2)) {
            return finding(BEYOND);
        }
        startTrial();
        trial.goMonths(n);
        switch (what) {
            case 0:
                return trial.depth;
            case 1:
                return trial.wroteTogether();
            default:
                return trial.people - trial.goneTogether();
        }
    }

    public int then(int person, int n, int what) {
        if (!isPerson(person) || !within(n, 0, FAR) || !within(what, 0, 2)) {
            return finding(BEYOND);
        }
        startTrial();
        trial.goMonths(n);
        switch (what) {
            case 0:
                return trial.loves[person];
            case 1:
                return trial.wrotes[person];
            default:
                return trial.gones[person];
        }
    }

    public int when(int v) {
        if (!within(v, 0, 1)) {
            return finding(BEYOND);
        }
        startTrial();
        for (int n = 0; n <= FAR; n++) {
            if (trial.isCountry() == (v == 1)) {
                return n;
            }
            trial.goMonth();
        }
        return finding(NONE);
    }

    public int gone(int person) {
        if (!isPerson(person)) {
            return finding(BEYOND);
        }
        startTrial();
        for (int n = 0; n <= FAR; n++) {
            if (trial.gones[person] == 1) {
                return n;
            }
            trial.goMonth();
        }
        return finding(NONE);
    }

    public int empty() {
        startTrial();
        for (int n = 0; n <= FAR; n++) {
            if (trial.goneTogether() == trial.people) {
                return n;
            }
            trial.goMonth();
        }
        return finding(NONE);
    }

    // ---- what is best

    public int bears(int n) {
        if (!within(n, 1, NEAR)) {
            return finding(BEYOND);
        }
        for (int dries = MOST_SMALL; dries >= 0; dries--) {
            startTrial();
            trial.dries = dries;
            if (staysCountry(n)) {
                return dries;
            }
        }
        return finding(NONE);
    }

    private boolean staysCountry(int n) {
        for (int i = 0; i < n; i++) {
            trial.goMonth();
            if (!trial.isCountry()) {
                return false;
            }
        }
        return true;
    }

    public int best(int v, int n) {
        if (!within(v, 1, MOST_SMALL) || !within(n, 1, NEAR)) {
            return finding(BEYOND);
        }
        int bestPlace = 0;
        int most = -1;
        for (int place = 0; place < PLACES; place++) {
            startTrial();
            trial.rains[place] = Math.min(MOST_SMALL, trial.rains[place] + v);
            trial.goMonths(n);
            int wrote = trial.wroteTogether();
            if (wrote > most) {
                most = wrote;
                bestPlace = place;
            }
        }
        return bestPlace;
    }

    public int kind(int person, int n) {
        if (!isPerson(person) || !within(n, 1, NEAR)) {
            return finding(BEYOND);
        }
        int bestKind = 0;
        int most = -1;
        for (int k = 0; k < KINDS; k++) {
            startTrial();
            trial.kinds[person] = k;
            trial.goMonths(n);
            if (trial.wrotes[person] > most) {
                most = trial.wrotes[person];
                bestKind = k;
            }
        }
        return bestKind;
    }

    public int deep(int n) {
        if (!within(n, 1, NEAR)) {
            return finding(BEYOND);
        }
        for (int depth = 0; depth <= MOST_DEPTH; depth++) {
            startTrial();
            trial.depth = depth;
            if (nobodyMoreLeaves(n)) {
                return depth;
            }
        }
        return finding(NONE);
    }

    private boolean nobodyMoreLeaves(int n) {
        int goneBefore = trial.goneTogether();
        for (int i = 0; i < n; i++) {
            trial.goMonth();
            if (trial.goneTogether() != goneBefore) {
                return false;
            }
        }
        return true;
    }

    public int recall(int n) {
        if (!within(n, 1, NEAR)) {
            return finding(BEYOND);
        }
        int who = -1;
        int most = -1;
        for (int p = 0; p < live.people; p++) {
            if (live.gones[p] == 1) {
                continue;
            }
            startTrial();
            trial.gones[p] = 1;
            trial.goMonths(n);
            int othersWrote = trial.wroteTogether() - trial.wrotes[p];
            if (othersWrote > most) {
                most = othersWrote;
                who = p;
            }
        }
        return who < 0 ? finding(NONE) : who;
    }

    public int rank(int person, int n) {
        if (!isPerson(person) || !within(n, 1, NEAR)) {
            return finding(BEYOND);
        }
        for (int r = 0; r <= MOST_SMALL; r++) {
            startTrial();
            trial.ranks[person] = r;
            trial.goMonths(n);
            if (trial.gones[person] == 0) {
                return r;
            }
        }
        return finding(NONE);
    }

    public int busiest(int n) {
        if (!within(n, 0, FAR)) {
            return finding(BEYOND);
        }
        startTrial();
        trial.goMonths(n);
        int who = -1;
        int most = -1;
        for (int p = 0; p < trial.people; p++) {
            if (trial.wrotes[p] > most) {
                most = trial.wrotes[p];
                who = p;
            }
        }
        return who < 0 ? finding(NONE) : who;
    }

    // ---- the text

    public int feed(int bytes, int n) {
        if (!within(n, 1, 4)) {
            return finding(BEYOND);
        }
        if (tape.length + n > MOST_BYTES) {
            return finding(FULL);
        }
        for (int i = n - 1; i >= 0; i--) {
            tape.append((bytes >>> (8 * i)) & 255);
        }
        return tape.length;
    }

    public int wipe() {
        int had = tape.length;
        tape.length = 0;
        return had;
    }

    public int text() {
        // The items come to the trial first: a fault far behind must leave the live one as it was.
        startTrial();
        int answer = tape.tellTo(trial);
        if (answer >= 0) {
            live.become(trial);
        }
        tape.length = 0;
        return answer;
    }

    // ---- sheets

    public int sheet(int s, int bits, int n) {
        if (!isSheet(s) || !(bits == 0 || bits == 8 || bits == 16 || bits == 64)) {
            return finding(BEYOND);
        }
        if (n < 0) {
            return finding(SIZE);
        }
        if (n > MOST_NUMBERS) {
            return finding(BEYOND);
        }
        sheets[s].layOut(bits, n);
        return sheets[s].length;
    }

    public long write(int s, int i, long v) {
        if (!isSheet(s)) {
            return finding(BEYOND);
        }
        if (sheets[s].isMissing()) {
            return finding(MISSING);
        }
        if (!within(i, 0, sheets[s].length - 1)) {
            return finding(BEYOND);
        }
        long was = sheets[s].numbers[i];
        sheets[s].put(i, v);
        return was;
    }

    public int copy(int s, int from, int t, int to, int n) {
        if (!isSheet(s) || !isSheet(t)) {
            return finding(BEYOND);
        }
        if (sheets[s].isMissing() || sheets[t].isMissing()) {
            return finding(MISSING);
        }
        if (sheets[s].bits != sheets[t].bits) {
            return finding(KIND);
        }
        if (!sheets[s].hasPart(from, n) || !sheets[t].hasPart(to, n)) {
            return finding(BEYOND);
        }
        System.arraycopy(sheets[s].numbers, from, sheets[t].numbers, to, n);
        return n;
    }

    public int lays(int s) {
        if (!isSheet(s)) {
            return finding(BEYOND);
        }
        if (sheets[s].isMissing()) {
            return finding(MISSING);
        }
        int came = 0;
        for (int i = 0; i < sheets[s].length && i < PLACES; i++) {
            long number = sheets[s].numbers[i];
            if (number >= 0 && number <= MOST_SMALL) {
                live.rains[i] = (int) number;
                came++;
            }
        }
        return came;
    }

    public int book(int s) {
        if (!isSheet(s)) {
            return finding(BEYOND);
        }
        if (sheets[s].isMissing()) {
            return finding(MISSING);
        }
        startTrial();
        for (int i = 0; i < sheets[s].length; i++) {
            sheets[s].put(i, trial.depth);
            trial.goMonth();
        }
        return sheets[s].length;
    }

    public int read(int s, int person) {
        if (!isSheet(s)) {
            return finding(BEYOND);
        }
        if (sheets[s].isMissing()) {
            return finding(MISSING);
        }
        if (!isPerson(person)) {
            return finding(BEYOND);
        }
        int pairs = 0;
        for (int k = 0; k < KINDS; k++) {
            for (int r = 0; r <= MOST_SMALL; r++) {
                startTrial();
                trial.kinds[person] = k;
                trial.ranks[person] = r;
                if (writesJustSo(sheets[s], person)) {
                    pairs++;
                }
            }
        }
        return pairs;
    }

    private boolean writesJustSo(Sheet sheet, int person) {
        for (int i = 0; i < sheet.length; i++) {
            if (sheet.numbers[i] != trial.wrotes[person]) {
                return false;
            }
            trial.goMonth();
        }
        return true;
    }

    // ---- images

    public int image() {
        kept.become(live);
        isKept = true;
        return 1;
    }

    public int undo() {
        if (!isKept) {
            return finding(NONE);
        }
        live.become(kept);
        return live.people;
    }

    public int tear() {
        int was = isKept ? 1 : 0;
        isKept = false;
        return was;
    }

    public int count(int what) {
        switch (what) {
            case 0:
                return live.people;
            case 1:
                return tape.length;
            case 2:
                return live.goneTogether();
            case 3:
                return live.rainOfYear();
            default:
                return finding(BEYOND);
        }
    }

    public int status(int which) {
        if (!within(which, -1, FINDINGS - 1)) {
            return finding(BEYOND);
        }
        if (which >= 0) {
            return findings[which];
        }
        int all = 0;
        for (int f = 0; f < FINDINGS; f++) {
            all += findings[f];
        }
        return all;
    }

    // ---- what the calls share

    private int finding(int which) {
        int place = BEYOND - which;
        if (within(place, 0, FINDINGS - 1)) {
            findings[place]++;
        }
        return which;
    }

    private void startTrial() {
        trial.become(live);
    }

    private boolean isPerson(int person) {
        return within(person, 0, live.people - 1);
    }

    private static boolean isKind(int kind) {
        return within(kind, 0, KINDS - 1);
    }

    private static boolean isPlace(int place) {
        return within(place, 0, PLACES - 1);
    }

    private static boolean isSheet(int s) {
        return within(s, 0, SHEETS - 1);
    }

    private static boolean within(int v, int least, int most) {
        return v >= least && v <= most;
    }

    /** All that an image keeps: the lake, its rain, and the people. */
    private static final class Legation {
        private static final int COUNTRY_FROM = 20;
        private static final int ICE_FROM = 50;
        private static final int TWENTIETH = 20;

        private int month;
        private int depth;
        private int dries;
        private final int[] rains;
        private int people;
        private final int[] kinds;
        private final int[] ranks;
        private final int[] loves;
        private final int[] wrotes;
        private final int[] gones;

        private Legation() {
            month = 0;
            depth = 60;
            dries = 12;
            rains = new int[PLACES];
            for (int i = 0; i < PLACES; i++) {
                rains[i] = 7 * i % 23;
            }
            people = 0;
            kinds = new int[MOST_PEOPLE];
            ranks = new int[MOST_PEOPLE];
            loves = new int[MOST_PEOPLE];
            wrotes = new int[MOST_PEOPLE];
            gones = new int[MOST_PEOPLE];
        }

        private void become(Legation other) {
            month = other.month;
            depth = other.depth;
            dries = other.dries;
            System.arraycopy(other.rains, 0, rains, 0, PLACES);
            people = other.people;
            System.arraycopy(other.kinds, 0, kinds, 0, MOST_PEOPLE);
            System.arraycopy(other.ranks, 0, ranks, 0, MOST_PEOPLE);
            System.arraycopy(other.loves, 0, loves, 0, MOST_PEOPLE);
            System.arraycopy(other.wrotes, 0, wrotes, 0, MOST_PEOPLE);
            System.arraycopy(other.gones, 0, gones, 0, MOST_PEOPLE);
        }

        private boolean isFull() {
            return people >= MOST_PEOPLE;
        }

        // The number of the newcomer; the callers have asked isFull() first.
        private int welcome(int kind) {
            int p = people;
            kinds[p] = kind;
            ranks[p] = 10;
            loves[p] = 0;
            wrotes[p] = 0;
            gones[p] = 0;
            people++;
            return p;
        }

        private int monthOfYear() {
            return month % PLACES;
        }

        private boolean isCountry() {
            return depth >= COUNTRY_FROM;
        }

        private boolean isIcy() {
            int m = monthOfYear();
            return depth >= ICE_FROM && (m == 0 || m == 1 || m == 11);
        }

        private int thereAsSet() {
            int there = 0;
            for (int p = 0; p < people; p++) {
                if (gones[p] == 0) {
                    there |= 1 << p;
                }
            }
            return there;
        }

        private int wroteTogether() {
            int together = 0;
            for (int p = 0; p < people; p++) {
                together += wrotes[p];
            }
            return together;
        }

        private int goneTogether() {
            int together = 0;
            for (int p = 0; p < people; p++) {
                together += gones[p];
            }
            return together;
        }

        private int rainOfYear() {
            int together = 0;
            for (int i = 0; i < PLACES; i++) {
                together += rains[i];
            }
            return together;
        }

        private void goMonths(int n) {
            for (int i = 0; i < n; i++) {
                goMonth();
            }
        }

        private void goMonth() {
            depth = Math.min(MOST_DEPTH, depth + rains[monthOfYear()]);
            depth = Math.max(0, depth - dries - drunk());
            for (int p = 0; p < people; p++) {
                if (gones[p] == 0) {
                    spendMonth(p);
                }
            }
            // Behind the people: ice is told by the month that goes.
            month++;
        }

        private int drunk() {
            int inches = 0;
            for (int p = 0; p < people; p++) {
                if (gones[p] == 0 && kinds[p] == HERON) {
                    inches++;
                }
            }
            return inches;
        }

        private void spendMonth(int p) {
            if (isCountry()) {
                wrotes[p] = Math.min(MOST_WROTE, wrotes[p] + writesOf(p));
            } else {
                loves[p] = Math.min(MOST_SMALL, loves[p] + lovesOf(p));
            }
            if (isLeaving(p)) {
                gones[p] = 1;
            }
        }

        private int writesOf(int p) {
            switch (kinds[p]) {
                case SECRETARY:
                    return secretaryWrites(p);
                case ENVOY:
                    return envoyWrites();
                case HERON:
                    return depth >= 100 ? 1 : 0;
                case CONSUL:
                    return secretaryWrites(p) + (depth > 40 ? 2 : 0);
                case MINISTER:
                    return envoyWrites() + (isIcy() ? 3 : 0);
                default:
                    return clerkWrites();
            }
        }

        private int clerkWrites() {
            return 1;
        }

        private int secretaryWrites(int p) {
            return clerkWrites() + ranks[p] / TWENTIETH;
        }

        private int envoyWrites() {
            return depth / TWENTIETH;
        }

        private int lovesOf(int p) {
            switch (kinds[p]) {
                case SECRETARY:
                    return secretaryLoves();
                case ENVOY:
                    return envoyLoves();
                case CONSUL:
                    return Math.max(0, secretaryLoves() - ranks[p] / TWENTIETH);
                case MINISTER:
                    return envoyLoves() + (depth == 0 ? 1 : 0);
                default:
                    return clerkLoves();
            }
        }

        private int clerkLoves() {
            return 1;
        }

        private int secretaryLoves() {
            return clerkLoves() + 4;
        }

        private int envoyLoves() {
            return 0;
        }

        private boolean isLeaving(int p) {
            switch (kinds[p]) {
                case SECRETARY:
                    return secretaryLeaves(p);
                case ENVOY:
                    return false;
                case HERON:
                    return depth == 0;
                case CONSUL:
                    return secretaryLeaves(p) && ranks[p] <= 50;
                case MINISTER:
                    return loves[p] >= 5;
                default:
                    return clerkLeaves(p);
            }
        }

        private boolean clerkLeaves(int p) {
            return loves[p] >= 30;
        }

        private boolean secretaryLeaves(int p) {
            return clerkLeaves(p) || (loves[p] >= 20 && !isCountry());
        }
    }

    /** The bytes fed so far, and the reading of them as the text of a legation, token by token. */
    private static final class Tape {
        private static final int END = 0;
        private static final int WORD = 1;
        private static final int NUMBER = 2;
        private static final int SIGN = 3;
        private static final int NO_TOKEN = 4;
        private static final int TOO_MUCH = 1000;

        private final int[] bytes;
        private int length;
        private int token;
        private int start;
        private int end;
        private int value;

        private Tape() {
            bytes = new int[MOST_BYTES];
            length = 0;
            token = END;
            start = 0;
            end = 0;
            value = 0;
        }

        private void append(int b) {
            if (length < MOST_BYTES) {
                bytes[length] = b;
                length++;
            }
        }

        // How many items came, or -1 less the fault's place: that of the token at which the telling stopped.
        private int tellTo(Legation legation) {
            end = 0;
            advance();
            for (int items = 1; items <= MOST_BYTES; items++) {
                if (!tellItem(legation)) {
                    return -1 - start;
                }
                if (token == END) {
                    return items;
                }
                if (token != SIGN) {
                    return -1 - start;
                }
                advance();
            }
            return -1 - start;
        }

        private boolean tellItem(Legation legation) {
            int kind = kindNamed();
            if (isKind(kind)) {
                return tellPerson(legation, kind);
            }
            if (isWord("depth")) {
                return tellDepth(legation);
            }
            if (isWord("dries")) {
                return tellDries(legation);
            }
            return isWord("rain") && tellRain(legation);
        }

        private boolean tellPerson(Legation legation, int kind) {
            if (legation.isFull()) {
                return false;
            }
            int person = legation.welcome(kind);
            advance();
            return tellPerhaps("rank", legation.ranks, person) && tellPerhaps("love", legation.loves, person);
        }

        private boolean tellPerhaps(String name, int[] row, int person) {
            if (!isWord(name)) {
                return true;
            }
            advance();
            if (!isNumber(MOST_SMALL)) {
                return false;
            }
            row[person] = value;
            advance();
            return true;
        }

        private boolean tellDepth(Legation legation) {
            advance();
            if (!isNumber(MOST_DEPTH)) {
                return false;
            }
            legation.depth = value;
            advance();
            return true;
        }

        private boolean tellDries(Legation legation) {
            advance();
            if (!isNumber(MOST_SMALL)) {
                return false;
            }
            legation.dries = value;
            advance();
            return true;
        }

        private boolean tellRain(Legation legation) {
            advance();
            if (!isNumber(PLACES - 1)) {
                return false;
            }
            int place = value;
            advance();
            if (!isNumber(MOST_SMALL)) {
                return false;
            }
            legation.rains[place] = value;
            advance();
            return true;
        }

        private int kindNamed() {
            if (isWord("clerk")) {
                return CLERK;
            }
            if (isWord("secretary")) {
                return SECRETARY;
            }
            if (isWord("envoy")) {
                return ENVOY;
            }
            if (isWord("heron")) {
                return HERON;
            }
            if (isWord("consul")) {
                return CONSUL;
            }
            return isWord("minister") ? MINISTER : NO_KIND;
        }

        private boolean isWord(String name) {
            if (token != WORD || end - start != name.length()) {
                return false;
            }
            for (int i = 0; i < name.length(); i++) {
                if (bytes[start + i] != name.charAt(i)) {
                    return false;
                }
            }
            return true;
        }

        private boolean isNumber(int most) {
            return token == NUMBER && value <= most;
        }

        private void advance() {
            start = end;
            while (start < length && bytes[start] == ' ') {
                start++;
            }
            end = start;
            value = 0;
            token = start < length ? tokenWith(bytes[start]) : END;
            if (token == SIGN || token == NO_TOKEN) {
                end++;
                return;
            }
            while (end < length && tokenWith(bytes[end]) == token) {
                if (token == NUMBER) {
                    // Held just above what any number may be: a long row of digits must not wrap around.
                    value = Math.min(TOO_MUCH, value * 10 + bytes[end] - '0');
                }
                end++;
            }
        }

        private static int tokenWith(int b) {
            if (b >= 'a' && b <= 'z') {
                return WORD;
            }
            if (b >= '0' && b <= '9') {
                return NUMBER;
            }
            return b == ';' ? SIGN : NO_TOKEN;
        }
    }

    /** A row of numbers of 8, 16 or 64 bits, signed as Java's are; of 0 bits while it is missing. */
    private static final class Sheet {
        private int bits;
        private int length;
        private final long[] numbers;

        private Sheet() {
            bits = 0;
            length = 0;
            numbers = new long[MOST_NUMBERS];
        }

        private void layOut(int newBits, int n) {
            bits = newBits;
            length = newBits == 0 ? 0 : n;
            for (int i = 0; i < MOST_NUMBERS; i++) {
                numbers[i] = 0;
            }
        }

        private boolean isMissing() {
            return bits == 0;
        }

        private boolean hasPart(int from, int n) {
            // Told by a difference: from and n together might wrap around.
            return from >= 0 && n >= 0 && n <= length - from;
        }

        private void put(int i, long v) {
            numbers[i] = lowestBits(v);
        }

        private long lowestBits(long v) {
            if (bits == 8) {
                return (byte) v;
            }
            return bits == 16 ? (short) v : v;
        }
    }
}
