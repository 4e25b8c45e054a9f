import java.util.ArrayList;
import java.util.Arrays;
import java.util.List;
import java.util.function.Predicate;
import java.util.function.ToIntFunction;
import java.util.regex.Matcher;
import java.util.regex.Pattern;

/**
 * The document told a second time, in another manner than the program (kinds as classes, lakes that are copied,
 * findings that are thrown, a text cut by a pattern), so that the two can be held against each other.
 */
final class Model {
    static final long BEYOND = -1000000001L;
    static final long FULL = -1000000002L;
    static final long KIND = -1000000003L;
    static final long NONE = -1000000004L;
    static final long STATE = -1000000005L;
    static final long MISSING = -1000000006L;
    static final long SIZE = -1000000007L;

    private static final class Finding extends RuntimeException {
        private static final long serialVersionUID = 1L;
        final long code;

        Finding(long code) {
            super(null, null, false, false);
            this.code = code;
        }
    }

    // ---- kinds

    private static class Clerk {
        int writes(Person p, int d, boolean ice) {
            return 1;
        }

        int loves(Person p, int d) {
            return 1;
        }

        boolean leaves(Person p, int d) {
            return p.love >= 30;
        }

        int drinks() {
            return 0;
        }
    }

    private static class Secretary extends Clerk {
        @Override
        int writes(Person p, int d, boolean ice) {
            return super.writes(p, d, ice) + p.rank / 20;
        }

        @Override
        int loves(Person p, int d) {
            return super.loves(p, d) + 4;
        }

        @Override
        boolean leaves(Person p, int d) {
            return super.leaves(p, d) || p.love >= 20 && d < 20;
        }
    }

    private static class Envoy extends Clerk {
        @Override
        int writes(Person p, int d, boolean ice) {
            return d / 20;
        }

        @Override
        int loves(Person p, int d) {
            return 0;
        }

        @Override
        boolean leaves(Person p, int d) {
            return false;
        }
    }

    private static final class Heron extends Clerk {
        @Override
        int writes(Person p, int d, boolean ice) {
            return d >= 100 ? 1 : 0;
        }

        @Override
        boolean leaves(Person p, int d) {
            return d == 0;
        }

        @Override
        int drinks() {
            return 1;
        }
    }

    private static final class Consul extends Secretary {
        @Override
        int writes(Person p, int d, boolean ice) {
            return super.writes(p, d, ice) + (d > 40 ? 2 : 0);
        }

        @Override
        int loves(Person p, int d) {
            return Math.max(0, super.loves(p, d) - p.rank / 20);
        }

        @Override
        boolean leaves(Person p, int d) {
            return p.rank <= 50 && super.leaves(p, d);
        }
    }

    private static final class Minister extends Envoy {
        @Override
        int writes(Person p, int d, boolean ice) {
            return super.writes(p, d, ice) + (ice ? 3 : 0);
        }

        @Override
        int loves(Person p, int d) {
            return super.loves(p, d) + (d == 0 ? 1 : 0);
        }

        @Override
        boolean leaves(Person p, int d) {
            return super.leaves(p, d) || p.love >= 5;
        }
    }

    private static final Clerk[] KINDS =
        {new Clerk(), new Secretary(), new Envoy(), new Heron(), new Consul(), new Minister()};
    private static final List<String> NAMES =
        List.of("clerk", "secretary", "envoy", "heron", "consul", "minister");

    // ---- a legation

    private static final class Person {
        int kind;
        int rank = 10;
        int love = 0;
        int wrote = 0;
        boolean gone = false;

        Person(int kind) {
            this.kind = kind;
        }

        Person(Person p) {
            kind = p.kind;
            rank = p.rank;
            love = p.love;
            wrote = p.wrote;
            gone = p.gone;
        }

        Clerk role() {
            return KINDS[kind];
        }
    }

    private static final class World {
        int month = 0;
        int depth = 60;
        int dries = 12;
        int[] rain = {0, 7, 14, 21, 5, 12, 19, 3, 10, 17, 1, 8};
        final List<Person> people = new ArrayList<>();

        World() {
        }

        World(World w) {
            month = w.month;
            depth = w.depth;
            dries = w.dries;
            rain = w.rain.clone();
            for (Person p : w.people) {
                people.add(new Person(p));
            }
        }

        boolean country() {
            return depth >= 20;
        }

        boolean ice() {
            return depth >= 50 && List.of(0, 1, 11).contains(month % 12);
        }

        World on(int n) {
            World w = new World(this);
            for (int i = 0; i < n; i++) {
                w.go();
            }
            return w;
        }

        void go() {
            int less = dries;
            for (Person p : people) {
                less += p.gone ? 0 : p.role().drinks();
            }
            depth = Math.max(Math.min(depth + rain[month % 12], 999) - less, 0);
            for (Person p : people) {
                if (p.gone) {
                    continue;
                }
                if (country()) {
                    p.wrote = Math.min(p.wrote + p.role().writes(p, depth, ice()), 9999);
                } else {
                    p.love = Math.min(p.love + p.role().loves(p, depth), 99);
                }
                p.gone = p.role().leaves(p, depth);
            }
            month++;
        }

        int wrote() {
            return people.stream().mapToInt(p -> p.wrote).sum();
        }

        int there() {
            return (int) people.stream().filter(p -> !p.gone).count();
        }
    }

    private static final class Sheet {
        final int bits;
        final long[] numbers;

        Sheet(int bits, int n) {
            this.bits = bits;
            numbers = new long[n];
        }

        void put(int i, long v) {
            numbers[i] = v << 64 - bits >> 64 - bits;
        }
    }

    private World world = new World();
    private World image = null;
    private final StringBuilder tape = new StringBuilder();
    private final Sheet[] sheets = new Sheet[4];
    private final List<Long> findings = new ArrayList<>();

    /** What the call is due to answer. */
    long call(String name, long... a) {
        try {
            return act(name, a);
        } catch (Finding f) {
            findings.add(f.code);
            return f.code;
        }
    }

    private long act(String name, long[] a) {
        int[] i = Arrays.stream(a).mapToInt(v -> (int) v).toArray();
        switch (name) {
            case "lake": return lake(i[0], i[1]);
            case "rain": return rain(i[0], i[1]);
            case "rainOf": return world.rain[in(i[0], 0, 11)];
            case "now": return now(i[0]);
            case "person": return newPerson(i[0]);
            case "of": return of(one(world, i[0]), i[1]);
            case "set": return set(one(world, i[0]), i[1], i[2]);
            case "turn": return turn(i[0], i[1]);
            case "as": return as(i[0], i[1]);
            case "months": return months(i[0]);
            case "on": return on(i[0], i[1]);
            case "then": return then(i[0], i[1], i[2]);
            case "when": return when(i[0]);
            case "gone": return gone(i[0]);
            case "empty": return first(w -> w.there() == 0);
            case "bears": return bears(i[0]);
            case "best": return best(i[0], i[1]);
            case "kind": return kind(i[0], i[1]);
            case "deep": return deep(i[0]);
            case "recall": return recall(i[0]);
            case "rank": return rank(i[0], i[1]);
            case "busiest": return busiest(i[0]);
            case "feed": return feed(i[0], i[1]);
            case "wipe": return wipe();
            case "text": return text();
            case "sheet": return sheet(i[0], i[1], i[2]);
            case "write": return write(i[0], i[1], a[2]);
            case "copy": return copy(i[0], i[1], i[2], i[3], i[4]);
            case "lays": return lays(paper(i[0]));
            case "book": return book(paper(i[0]));
            case "read": return read(paper(i[0]), i[1]);
            case "image": image = new World(world); return 1;
            case "undo": return undo();
            case "tear": return tear();
            case "count": return count(i[0]);
            case "status": return status(i[0]);
            default: throw new IllegalStateException(name);
        }
    }

    private static int in(int v, int least, int most) {
        must(least <= v && v <= most, BEYOND);
        return v;
    }

    private static void must(boolean so, long code) {
        if (!so) {
            throw new Finding(code);
        }
    }

    private static Person one(World w, int person) {
        return w.people.get(in(person, 0, w.people.size() - 1));
    }

    private long lake(int what, int v) {
        in(what, 0, 1);
        in(v, 0, what == 0 ? 999 : 99);
        int was = what == 0 ? world.depth : world.dries;
        world.depth = what == 0 ? v : world.depth;
        world.dries = what == 1 ? v : world.dries;
        return was;
    }

    private long rain(int place, int v) {
        in(place, 0, 11);
        in(v, 0, 99);
        int was = world.rain[place];
        world.rain[place] = v;
        return was;
    }

    private long now(int what) {
        int set = 0;
        for (int p = world.people.size() - 1; p >= 0; p--) {
            set = 2 * set + (world.people.get(p).gone ? 0 : 1);
        }
        int[] all = {world.month, world.month % 12, world.depth, world.dries,
            world.ice() ? 2 : world.country() ? 1 : 0, set, world.wrote()};
        return all[in(what, 0, 6)];
    }

    private long newPerson(int kind) {
        in(kind, 0, 5);
        must(world.people.size() < 8, FULL);
        world.people.add(new Person(kind));
        return world.people.size() - 1;
    }

    private long of(Person p, int what) {
        int[] all = {p.kind, p.rank, p.love, p.wrote, p.gone ? 1 : 0, p.role().writes(p, world.depth, world.ice()),
            p.role().loves(p, world.depth), p.role().leaves(p, world.depth) ? 1 : 0};
        return all[in(what, 0, 7)];
    }

    private long set(Person p, int what, int v) {
        in(what, 1, 4);
        in(v, 0, new int[] {0, 99, 99, 9999, 1}[what]);
        long was = of(p, what);
        switch (what) {
            case 1: p.rank = v; break;
            case 2: p.love = v; break;
            case 3: p.wrote = v; break;
            default: p.gone = v == 1;
        }
        return was;
    }

    private long turn(int person, int kind) {
        Person p = one(world, person);
        in(kind, 0, 5);
        int was = p.kind;
        p.kind = kind;
        return was;
    }

    private long as(int person, int kind) {
        Person p = one(world, person);
        in(kind, 0, 5);
        must(KINDS[kind].getClass().isInstance(p.role()), KIND);
        return p.rank;
    }

    private long months(int n) {
        in(n, 1, 120);
        must(world.month + n <= 9999, STATE);
        world = world.on(n);
        return world.depth;
    }

    private long on(int n, int what) {
        in(what, 0, 2);
        World w = world.on(in(n, 0, 240));
        return new int[] {w.depth, w.wrote(), w.there()}[what];
    }

    private long then(int person, int n, int what) {
        one(world, person);
        in(what, 0, 2);
        Person p = one(world.on(in(n, 0, 240)), person);
        return new int[] {p.love, p.wrote, p.gone ? 1 : 0}[what];
    }

    private long first(Predicate<World> so) {
        World w = new World(world);
        for (int n = 0; n <= 240; n++) {
            if (so.test(w)) {
                return n;
            }
            w.go();
        }
        throw new Finding(NONE);
    }

    private long when(int v) {
        in(v, 0, 1);
        return first(w -> w.country() == (v == 1));
    }

    private long gone(int person) {
        one(world, person);
        return first(w -> one(w, person).gone);
    }

    private interface Change {
        void to(World w, int v);
    }

    private World changed(Change change, int v) {
        World w = new World(world);
        change.to(w, v);
        return w;
    }

    /** The first of the numbers with the most. */
    private long most(int count, Change change, int n, ToIntFunction<World> worth) {
        int[] worths = new int[count];
        for (int v = 0; v < count; v++) {
            worths[v] = worth.applyAsInt(changed(change, v).on(n));
        }
        int most = Arrays.stream(worths).max().orElseThrow();
        for (int v = 0; ; v++) {
            if (worths[v] == most) {
                return v;
            }
        }
    }

    private long bears(int n) {
        in(n, 1, 60);
        long greatest = NONE;
        for (int dries = 0; dries <= 99; dries++) {
            World w = changed((c, v) -> c.dries = v, dries);
            boolean always = true;
            for (int m = 0; m < n; m++) {
                w.go();
                always &= w.country();
            }
            greatest = always ? dries : greatest;
        }
        must(greatest != NONE, NONE);
        return greatest;
    }

    private long best(int v, int n) {
        in(v, 1, 99);
        in(n, 1, 60);
        return most(12, (w, place) -> w.rain[place] = Math.min(99, w.rain[place] + v), n, World::wrote);
    }

    private long kind(int person, int n) {
        one(world, person);
        in(n, 1, 60);
        return most(6, (w, kind) -> one(w, person).kind = kind, n, w -> one(w, person).wrote);
    }

    private long deep(int n) {
        in(n, 1, 60);
        for (int depth = 0; depth <= 999; depth++) {
            if (changed((w, v) -> w.depth = v, depth).on(n).there() == world.there()) {
                return depth;
            }
        }
        throw new Finding(NONE);
    }

    private long recall(int n) {
        in(n, 1, 60);
        must(world.there() > 0, NONE);
        int best = -1;
        int most = -1;
        for (int p = world.people.size() - 1; p >= 0; p--) {
            if (world.people.get(p).gone) {
                continue;
            }
            World w = changed((c, v) -> c.people.get(v).gone = true, p).on(n);
            w.people.remove(p);
            if (w.wrote() >= most) {
                most = w.wrote();
                best = p;
            }
        }
        return best;
    }

    private long rank(int person, int n) {
        one(world, person);
        in(n, 1, 60);
        for (int rank = 0; rank <= 99; rank++) {
            World w = changed((c, v) -> one(c, person).rank = v, rank).on(n);
            if (!one(w, person).gone) {
                return rank;
            }
        }
        throw new Finding(NONE);
    }

    private long busiest(int n) {
        in(n, 0, 240);
        must(!world.people.isEmpty(), NONE);
        World w = world.on(n);
        int most = w.people.stream().mapToInt(p -> p.wrote).max().orElseThrow();
        for (int p = 0; ; p++) {
            if (w.people.get(p).wrote == most) {
                return p;
            }
        }
    }

    // ---- the text

    private long feed(int bytes, int n) {
        in(n, 1, 4);
        must(tape.length() + n <= 120, FULL);
        byte[] all = {(byte) (bytes >> 24), (byte) (bytes >> 16), (byte) (bytes >> 8), (byte) bytes};
        for (int i = 4 - n; i < 4; i++) {
            tape.append((char) (all[i] & 255));
        }
        return tape.length();
    }

    private long wipe() {
        int had = tape.length();
        tape.setLength(0);
        return had;
    }

    private static final class Fault extends Exception {
        private static final long serialVersionUID = 1L;
        final int place;

        Fault(int place) {
            super(null, null, false, false);
            this.place = place;
        }
    }

    private static final Pattern TOKEN = Pattern.compile("[a-z]+|[0-9]+|[^ ]", Pattern.DOTALL);
    private List<String> tokens;
    private List<Integer> places;
    private int at;

    private long text() {
        tokens = new ArrayList<>();
        places = new ArrayList<>();
        at = 0;
        Matcher m = TOKEN.matcher(tape);
        while (m.find()) {
            tokens.add(m.group());
            places.add(m.start());
        }
        tokens.add("");
        places.add(tape.length());
        tape.setLength(0);
        try {
            World told = new World(world);
            int items = 1;
            item(told);
            while (!tokens.get(at).isEmpty()) {
                stand(tokens.get(at).equals(";"));
                at++;
                item(told);
                items++;
            }
            world = told;
            return items;
        } catch (Fault f) {
            return -1 - f.place;
        }
    }

    private void stand(boolean can) throws Fault {
        if (!can) {
            throw new Fault(places.get(at));
        }
    }

    private void item(World w) throws Fault {
        String word = tokens.get(at);
        if (NAMES.contains(word)) {
            stand(w.people.size() < 8);
            Person p = new Person(NAMES.indexOf(word));
            w.people.add(p);
            at++;
            if (tokens.get(at).equals("rank")) {
                at++;
                p.rank = number(99);
            }
            if (tokens.get(at).equals("love")) {
                at++;
                p.love = number(99);
            }
            return;
        }
        stand(List.of("depth", "dries", "rain").contains(word));
        at++;
        if (word.equals("depth")) {
            w.depth = number(999);
        } else if (word.equals("dries")) {
            w.dries = number(99);
        } else {
            int place = number(11);
            w.rain[place] = number(99);
        }
    }

    private int number(int most) throws Fault {
        String digits = tokens.get(at);
        stand(digits.matches("0*[0-9]{1,3}") && Integer.parseInt(digits.replaceFirst("^0+(?=.)", "")) <= most);
        at++;
        return Integer.parseInt(digits.replaceFirst("^0+(?=.)", ""));
    }

    // ---- sheets

    private Sheet paper(int s) {
        Sheet sheet = sheets[in(s, 0, 3)];
        must(sheet != null, MISSING);
        return sheet;
    }

    private long sheet(int s, int bits, int n) {
        in(s, 0, 3);
        must(List.of(0, 8, 16, 64).contains(bits), BEYOND);
        must(n >= 0, SIZE);
        must(n <= 40, BEYOND);
        sheets[s] = bits == 0 ? null : new Sheet(bits, n);
        return bits == 0 ? 0 : n;
    }

    private long write(int s, int i, long v) {
        Sheet sheet = paper(s);
        long was = sheet.numbers[in(i, 0, sheet.numbers.length - 1)];
        sheet.put(i, v);
        return was;
    }

    private long copy(int s, int from, int t, int to, int n) {
        in(s, 0, 3);
        in(t, 0, 3);
        Sheet a = paper(s);
        Sheet b = paper(t);
        must(a.bits == b.bits, KIND);
        must(from >= 0 && to >= 0 && n >= 0, BEYOND);
        must((long) from + n <= a.numbers.length && (long) to + n <= b.numbers.length, BEYOND);
        long[] were = Arrays.copyOfRange(a.numbers, from, from + n);
        for (int i = 0; i < n; i++) {
            b.numbers[to + i] = were[i];
        }
        return n;
    }

    private long lays(Sheet sheet) {
        int came = 0;
        for (int i = 0; i < Math.min(12, sheet.numbers.length); i++) {
            long v = sheet.numbers[i];
            if (0 <= v && v <= 99) {
                world.rain[i] = (int) v;
                came++;
            }
        }
        return came;
    }

    private long book(Sheet sheet) {
        for (int n = 0; n < sheet.numbers.length; n++) {
            sheet.put(n, world.on(n).depth);
        }
        return sheet.numbers.length;
    }

    private long read(Sheet sheet, int person) {
        one(world, person);
        int pairs = 0;
        for (int pair = 0; pair < 600; pair++) {
            World w = new World(world);
            one(w, person).kind = pair / 100;
            one(w, person).rank = pair % 100;
            boolean so = true;
            for (int i = 0; i < sheet.numbers.length && so; i++) {
                so = one(w, person).wrote == sheet.numbers[i];
                w.go();
            }
            pairs += so ? 1 : 0;
        }
        return pairs;
    }

    // ---- images

    private long undo() {
        must(image != null, NONE);
        world = new World(image);
        return world.people.size();
    }

    private long tear() {
        boolean was = image != null;
        image = null;
        return was ? 1 : 0;
    }

    private long count(int what) {
        in(what, 0, 3);
        int people = world.people.size();
        return new int[] {people, tape.length(), people - world.there(), Arrays.stream(world.rain).sum()}[what];
    }

    private long status(int which) {
        in(which, -1, 6);
        return findings.stream().filter(code -> which == -1 || code == BEYOND - which).count();
    }
}
