import java.math.BigInteger;
import java.util.ArrayList;
import java.util.Arrays;
import java.util.List;
import java.util.function.Predicate;
import java.util.regex.Matcher;
import java.util.regex.Pattern;

/** The document once more, in the plainest Java: people are objects of their kinds, and copies are tried. */
final class PlainClaque {
    static final String[] KINDS = {"guest", "wife", "hand", "cook", "chief", "rival"};
    static final String[] LAWS = {"pay", "cue", "wall", "wrong"};
    static final int[] LEAST = {0, 1, 0, 0};
    static final int[] MOST = {9, 9, 9, 99};

    House now = new House();
    House kept = null;
    StringBuilder tape = new StringBuilder();
    List<int[]> rows = new ArrayList<>();
    Object[] sheets = new Object[4];
    Object[] shelves = new Object[4];
    static List<Integer> trace = new ArrayList<>();

    PlainClaque() {
        trace = new ArrayList<>();
    }

    static class Guest {
        int kind, pride, ear, room, number;
        boolean claps;

        int loud(House h) {
            return 1 + ear / 3;
        }

        int needs(House h) {
            return ear;
        }

        int coughs(int x) {
            trace.add(10);
            return x - number * 7;
        }

        int laughs(int x) {
            trace.add(11);
            return coughs(x) * 2 + ear;
        }

        int parts(int x) {
            trace.add(12);
            return x / (ear - number);
        }

        int rises(int x) {
            trace.add(13);
            return laughs(x) ^ 90;
        }

        int hears(House h) {
            int here = 0;
            int beside = 0;
            for (Guest g : h.people) {
                if (g.claps && g != this && g.room == room) {
                    here += g.loud(h);
                }
                if (g.claps && (g.room == (room + 1) % 8 || room == (g.room + 1) % 8)) {
                    beside += g.loud(h);
                }
            }
            return here + beside / (h.laws[2] + 1);
        }

        Guest as(int otherKind) {
            Guest g = of(otherKind);
            g.pride = pride;
            g.ear = ear;
            g.room = room;
            g.number = number;
            g.claps = claps;
            return g;
        }

        static Guest of(int kind) {
            Guest g = kind == 0 ? new Guest() : kind == 1 ? new Wife() : kind == 2 ? new Hand()
                : kind == 3 ? new Cook() : kind == 4 ? new Chief() : new Rival();
            g.kind = kind;
            return g;
        }
    }

    static class Wife extends Guest {
        @Override int loud(House h) {
            return super.loud(h) + 1;
        }

        @Override int needs(House h) {
            return super.needs(h) - pride / 10;
        }

        @Override int laughs(int x) {
            trace.add(20);
            return super.laughs(x) - 8;
        }
    }

    static class Cook extends Wife {
        @Override int loud(House h) {
            return super.loud(h) * 2;
        }

        @Override int needs(House h) {
            return super.needs(h) + 2;
        }

        @Override int parts(int x) {
            trace.add(50);
            return super.parts(x + ear) - number;
        }

        @Override int coughs(int x) {
            trace.add(51);
            return super.coughs(x) * 3;
        }
    }

    static class Hand extends Guest {
        @Override int loud(House h) {
            return super.loud(h) + h.laws[0];
        }

        @Override int needs(House h) {
            return h.minute % h.laws[1] == 0 ? 0 : super.needs(h);
        }

        @Override int coughs(int x) {
            trace.add(30);
            return super.coughs(x) ^ 1;
        }

        @Override int rises(int x) {
            trace.add(31);
            return super.rises(x) - parts(number);
        }
    }

    static class Chief extends Hand {
        @Override int loud(House h) {
            return super.loud(h) + pride / 10;
        }

        @Override int needs(House h) {
            return super.needs(h) / 2;
        }

        @Override int coughs(int x) {
            trace.add(40);
            return 0 - super.coughs(x);
        }

        @Override int laughs(int x) {
            trace.add(41);
            return super.laughs(x) + coughs(ear);
        }
    }

    static class Rival extends Guest {
        @Override int loud(House h) {
            return -super.loud(h);
        }

        @Override int needs(House h) {
            return super.needs(h) + 3;
        }

        @Override int rises(int x) {
            trace.add(60);
            return 5 - super.rises(x);
        }

        @Override int parts(int x) {
            trace.add(61);
            return super.parts(x) ^ coughs(number);
        }
    }

    static class House {
        int[] laws = {2, 3, 1, 20};
        List<Guest> people = new ArrayList<>();
        int minute = 0;
        int z = 1;

        House copy() {
            House h = new House();
            h.laws = laws.clone();
            for (Guest g : people) {
                h.people.add(g.as(g.kind));
            }
            h.minute = minute;
            h.z = z;
            return h;
        }

        House behind(int n) {
            House h = copy();
            for (int i = 0; i < n; i++) {
                h.pass();
            }
            return h;
        }

        void pass() {
            House begun = copy();
            for (int p = 0; p < people.size(); p++) {
                Guest was = begun.people.get(p);
                int hears = was.hears(begun);
                people.get(p).pride = Math.min(99, Math.max(0, was.pride + hears));
                people.get(p).claps = hears >= was.needs(begun);
            }
            minute++;
        }

        int draw() {
            z = z * 1103515245 + 12345;
            return z >>> 16;
        }

        void passByDraws() {
            if (!people.isEmpty()) {
                Guest g = people.get(draw() % people.size());
                if (draw() % 100 < laws[3]) {
                    g.claps = !g.claps;
                }
            }
            pass();
        }

        int set(Predicate<Guest> whom) {
            int set = 0;
            for (Guest g : people) {
                set |= whom.test(g) ? 1 << g.number : 0;
            }
            return set;
        }

        int clapping() {
            return set(g -> g.claps);
        }

        int howMany() {
            return Integer.bitCount(clapping());
        }

        boolean allClap() {
            return howMany() == people.size();
        }
    }

    private boolean no(int person) {
        return person < 0 || person >= now.people.size();
    }

    private static boolean out(int v, int least, int most) {
        return v < least || v > most;
    }

    int feed(long eight, int n) {
        if (out(n, 1, 8)) return -1;
        if (tape.length() + n > 200) return -2;
        for (int i = 0; i < n; i++) tape.append((char) (eight >>> 8 * i & 255));
        return tape.length();
    }

    int opera() {
        String text = tape.toString();
        tape.setLength(0);
        House h = new House();
        h.z = now.z;
        int fault = read(text, h);
        if (fault >= 0) return -100 - fault;
        now = h;
        rows.clear();
        return h.people.size();
    }

    /** Each token's place and text; the end is the token "". */
    private static int read(String text, House h) {
        List<String> tokens = new ArrayList<>();
        List<Integer> places = new ArrayList<>();
        Matcher m = Pattern.compile("[a-z]+|[0-9]+|[^ ]", Pattern.DOTALL).matcher(text);
        while (m.find()) {
            tokens.add(m.group());
            places.add(m.start());
        }
        tokens.add("");
        places.add(text.length());
        int at = 0;
        while (!tokens.get(at).isEmpty()) {
            at = statement(tokens, at, h);
            if (at < 0) return places.get(-1 - at);
        }
        return -1;
    }

    /** The next token's index, or -1 less that of the token at fault. */
    private static int statement(List<String> tokens, int from, House h) {
        int at = from;
        int law = Arrays.asList(LAWS).indexOf(tokens.get(at));
        int kind = Arrays.asList(KINDS).indexOf(tokens.get(at));
        if (law >= 0) {
            at++;
            if (!number(tokens.get(at), LEAST[law], MOST[law])) return -1 - at;
            h.laws[law] = Integer.parseInt(tokens.get(at++));
        } else if (kind >= 0 && h.people.size() < 8) {
            Guest g = Guest.of(kind);
            g.ear = 3;
            g.number = h.people.size();
            at++;
            if (!tokens.get(at).equals("in")) return -1 - at;
            at++;
            if (!number(tokens.get(at), 0, 7)) return -1 - at;
            g.room = Integer.parseInt(tokens.get(at++));
            if (tokens.get(at).equals("pride")) {
                at++;
                if (!number(tokens.get(at), 0, 99)) return -1 - at;
                g.pride = Integer.parseInt(tokens.get(at++));
            }
            if (tokens.get(at).equals("ear")) {
                at++;
                if (!number(tokens.get(at), 0, 9)) return -1 - at;
                g.ear = Integer.parseInt(tokens.get(at++));
            }
            if (tokens.get(at).equals("claps")) {
                g.claps = true;
                at++;
            }
            h.people.add(g);
        } else {
            return -1 - at;
        }
        return tokens.get(at).equals(";") ? at + 1 : -1 - at;
    }

    private static boolean number(String token, int least, int most) {
        return token.matches("[0-9]{1,3}") && !out(Integer.parseInt(token), least, most);
    }

    int set(int law, int v) {
        if (out(law, 0, 3) || out(v, LEAST[law], MOST[law])) return -1;
        int was = now.laws[law];
        now.laws[law] = v;
        return was;
    }

    int lawOf(int law) {
        return out(law, 0, 3) ? -1 : now.laws[law];
    }

    int person(int kind, int pride, int ear, int room) {
        if (out(kind, 0, 5) || out(pride, 0, 99) || out(ear, 0, 9) || out(room, 0, 7)) return -1;
        if (now.people.size() == 8) return -2;
        Guest g = Guest.of(kind);
        g.pride = pride;
        g.ear = ear;
        g.room = room;
        g.number = now.people.size();
        now.people.add(g);
        return g.number;
    }

    int of(int person, int what) {
        if (no(person) || out(what, 0, 4)) return -1;
        Guest g = now.people.get(person);
        return new int[] {g.kind, g.pride, g.ear, g.room, g.claps ? 1 : 0}[what];
    }

    int does(int person, int what) {
        if (no(person) || out(what, 0, 2)) return -1;
        Guest g = now.people.get(person);
        return 1000 + new int[] {g.loud(now), g.needs(now), g.hears(now)}[what];
    }

    int mind(int person, int kind, int ear) {
        if (no(person) || out(kind, 0, 5) || out(ear, 0, 9)) return -1;
        Guest was = now.people.set(person, now.people.get(person).as(kind));
        now.people.get(person).ear = ear;
        return was.kind;
    }

    int pride(int person, int v) {
        if (no(person) || out(v, 0, 99)) return -1;
        int was = now.people.get(person).pride;
        now.people.get(person).pride = v;
        return was;
    }

    int move(int person, int room) {
        if (no(person) || out(room, 0, 7)) return -1;
        int was = now.people.get(person).room;
        now.people.get(person).room = room;
        return was;
    }

    int clap(int person, int v) {
        if (no(person) || out(v, 0, 1)) return -1;
        int was = of(person, 4);
        now.people.get(person).claps = v == 1;
        return was;
    }

    int room(int room, int what) {
        if (out(room, 0, 7) || out(what, 0, 1)) return -1;
        return now.set(g -> g.room == room && (what == 0 || g.claps));
    }

    int minutes(int n) {
        if (out(n, 1, 60)) return -1;
        now = now.behind(n);
        return now.howMany();
    }

    int seed(int v) {
        int was = now.z;
        now.z = v;
        return was;
    }

    int minute() {
        now.passByDraws();
        return now.howMany();
    }

    int stir(int n) {
        if (out(n, 1, 30)) return -1;
        int more = 0;
        int z = now.z;
        for (int i = 0; i < n; i++) {
            House h = now.copy();
            h.z = z;
            h.passByDraws();
            z = h.z;
            if (h.howMany() > now.behind(1).howMany()) more++;
        }
        return more;
    }

    int state(int what) {
        switch (what) {
            case 0: return now.minute;
            case 1: return now.clapping();
            case 2: return now.people.stream().mapToInt(g -> g.pride).sum();
            case 3: return 1000 + now.people.stream().filter(g -> g.claps).mapToInt(g -> g.loud(now)).sum();
            case 4: return now.people.stream().mapToInt(g -> 1 << g.room).reduce(0, (a, b) -> a | b);
            case 5: return now.people.stream().mapToInt(g -> g.ear).sum();
            default: return -1;
        }
    }

    int clapping(int n) {
        return out(n, 0, 60) ? -1 : now.behind(n).clapping();
    }

    private int first(int least, Predicate<House> is) {
        for (int n = least; n <= 60; n++) {
            if (is.test(now.behind(n))) return n;
        }
        return -3;
    }

    int joins(int person) {
        return no(person) ? -1 : first(0, h -> h.people.get(person).claps);
    }

    int all() {
        return first(0, House::allClap);
    }

    int hush() {
        return first(0, h -> h.clapping() == 0);
    }

    int round() {
        return first(1, h -> h.clapping() == now.clapping());
    }

    /** By what: 0 rooms, 1 kinds, 2 ears. */
    private int proudest(int person, int n, int what, int choices) {
        if (no(person) || out(n, 1, 20)) return -1;
        int[] prides = new int[choices];
        for (int v = 0; v < choices; v++) {
            House h = now.copy();
            Guest g = h.people.get(person);
            if (what == 0) g.room = v;
            if (what == 1) h.people.set(person, g.as(v));
            if (what == 2) g.ear = v;
            prides[v] = h.behind(n).people.get(person).pride;
        }
        int most = Arrays.stream(prides).max().getAsInt();
        for (int v = 0; v < choices; v++) {
            if (prides[v] == most) return v;
        }
        throw new IllegalStateException();
    }

    int roomFor(int person, int n) {
        return proudest(person, n, 0, 8);
    }

    int kindFor(int person, int n) {
        return proudest(person, n, 1, 6);
    }

    int earFor(int person, int n) {
        return proudest(person, n, 2, 10);
    }

    private int fewest(Predicate<Integer> does) {
        int best = -3;
        for (int set = (1 << now.people.size()) - 1; set >= 0; set--) {
            if (does.test(set) && (best == -3 || Integer.bitCount(set) <= Integer.bitCount(best))) best = set;
        }
        return best;
    }

    int begunFor(int person, int n) {
        if (no(person) || out(n, 1, 20)) return -1;
        return fewest(set -> {
            House h = now.copy();
            h.people.forEach(g -> g.claps = (set >> g.number & 1) == 1);
            return (set >> person & 1) == 0 && h.behind(n).people.get(person).claps;
        });
    }

    int hiredFor(int n) {
        if (out(n, 1, 20)) return -1;
        return fewest(set -> {
            House h = now.copy();
            h.people.replaceAll(g -> (set >> g.number & 1) == 1 ? g.as(2) : g);
            return h.behind(n).allClap();
        });
    }

    private static int sortOf(Object row) {
        return row instanceof byte[] ? 0 : row instanceof short[] ? 1 : row instanceof int[] ? 2 : 3;
    }

    private static int lengthOf(Object row) {
        return java.lang.reflect.Array.getLength(row);
    }

    int fits(int sheet, int person, int what) {
        if (out(sheet, 0, 3) || no(person) || out(what, 0, 1)) return -1;
        if (sheets[sheet] == null) return -11;
        List<Integer> ears = new ArrayList<>();
        for (int ear = 0; ear < 10; ear++) {
            House h = now.copy();
            h.people.get(person).ear = ear;
            boolean fit = true;
            for (int i = 0; i < lengthOf(sheets[sheet]); i++) {
                long told = java.lang.reflect.Array.getLong(sheets[sheet], i);
                fit &= told == -1 || told == h.behind(i + 1).howMany();
            }
            if (fit) ears.add(ear);
        }
        return what == 0 ? ears.size() : ears.isEmpty() ? -3 : ears.get(0);
    }

    private static long part(BigInteger above, BigInteger below, int part) {
        BigInteger divisor = above.gcd(below);
        return (part == 0 ? above : below).divide(divisor).longValueExact();
    }

    long odds(int n, int k, int part) {
        if (out(n, 0, 8) || out(k, 0, n) || out(part, 0, 1)) return -1;
        long ways = 0;
        for (int set = 0; set < 1 << n; set++) {
            if (Integer.bitCount(set) == k) ways++;
        }
        BigInteger wrong = BigInteger.valueOf(now.laws[3]);
        BigInteger right = BigInteger.valueOf(100 - now.laws[3]);
        return part(BigInteger.valueOf(ways).multiply(wrong.pow(k)).multiply(right.pow(n - k)),
            BigInteger.valueOf(100).pow(n), part);
    }

    long hope(int n, int part) {
        if (out(n, 0, 99) || out(part, 0, 1)) return -1;
        return part(BigInteger.valueOf((long) n * now.laws[3]), BigInteger.valueOf(100), part);
    }

    private int[] rowOf(int person, int n) {
        House h = now.behind(n);
        Guest g = h.people.get(person);
        return new int[] {g.pride, g.claps ? 1 : 0, h.clapping()};
    }

    int prove(int person, int n) {
        if (no(person) || out(n, 1, 10)) return -1;
        rows.clear();
        for (int i = 1; i <= n; i++) rows.add(rowOf(person, i));
        return n;
    }

    int row(int i, int what) {
        return out(i, 0, rows.size() - 1) || out(what, 0, 2) ? -9 : rows.get(i)[what];
    }

    int alterRow(int i, int what, int v) {
        if (out(i, 0, rows.size() - 1) || out(what, 0, 2)) return -9;
        int was = rows.get(i)[what];
        rows.get(i)[what] = v;
        return was;
    }

    int judge(int person) {
        if (no(person)) return -1;
        for (int i = 0; i < rows.size(); i++) {
            if (!Arrays.equals(rows.get(i), rowOf(person, i + 1))) return i + 1;
        }
        return 0;
    }

    int minds(int sheet, int i, int person, int n) {
        if (out(sheet, 0, 3) || no(person) || out(n, 0, 8) || person + n > now.people.size()) return -1;
        if (sheets[sheet] == null) return -11;
        if (!(sheets[sheet] instanceof byte[])) return -13;
        byte[] row = (byte[]) sheets[sheet];
        if (out(i, 0, row.length) || row.length - i < n) return -12;
        for (int k = 0; k < n; k++) now.people.get(person + k).pride = Math.min(99, Math.max(0, row[i + k]));
        return n;
    }

    int sheet(int sheet, int sort, int n) {
        if (out(sheet, 0, 3) || out(sort, -1, 3) || sort >= 0 && n > 40) return -1;
        if (sort >= 0 && n < 0) return -14;
        sheets[sheet] = sort == -1 ? null : sort == 0 ? new byte[n] : sort == 1 ? new short[n]
            : sort == 2 ? new int[n] : new long[n];
        return 1;
    }

    int put(int sheet, int i, int v) {
        if (out(sheet, 0, 3)) return -1;
        Object row = sheets[sheet];
        if (row == null) return -11;
        if (out(i, 0, lengthOf(row) - 1)) return -12;
        switch (sortOf(row)) {
            case 0: ((byte[]) row)[i] = (byte) v; break;
            case 1: ((short[]) row)[i] = (short) v; break;
            case 2: ((int[]) row)[i] = v; break;
            default: ((long[]) row)[i] = v; break;
        }
        return 1;
    }

    int item(int sheet, int sort, int i) {
        if (out(sheet, 0, 3) || out(sort, 0, 3)) return -1;
        Object row = sheets[sheet];
        if (row == null) return -11;
        if (sortOf(row) != sort) return -13;
        if (out(i, 0, lengthOf(row) - 1)) return -12;
        return (int) java.lang.reflect.Array.getLong(row, i);
    }

    int shelf(int shelf, int what, int n) {
        if (out(shelf, 0, 3) || out(what, 0, 2)) return -1;
        if (what == 0 && no(n) || what == 1 && out(n, 0, 3)) return -1;
        shelves[shelf] = what == 0 ? (Object) n : what == 1 ? sheets[n] : null;
        return 1;
    }

    private Object held(int shelf) {
        Object held = shelves[shelf];
        return held instanceof Integer ? no((Integer) held) ? null : now.people.get((Integer) held) : held;
    }

    int taken(int shelf, int as) {
        if (out(shelf, 0, 3) || out(as, 0, 5) && out(as, 10, 13)) return -1;
        Object held = held(shelf);
        if (held == null) return -11;
        if (as >= 10) return !(held instanceof Guest) && sortOf(held) == as - 10 ? lengthOf(held) : -13;
        return Guest.of(as).getClass().isInstance(held) ? ((Guest) held).number : -13;
    }

    int act(int shelf, int act, int x) {
        trace.clear();
        if (out(shelf, 0, 3) || out(act, 0, 3) || !(held(shelf) instanceof Guest)) return 0;
        Guest g = (Guest) held(shelf);
        try {
            return act == 0 ? g.coughs(x) : act == 1 ? g.laughs(x) : act == 2 ? g.parts(x) : g.rises(x);
        } catch (ArithmeticException parted) {
            return -15;
        }
    }

    int trace(int i) {
        return out(i, 0, Math.min(30, trace.size()) - 1) ? -3 : trace.get(i);
    }

    int many(int what) {
        switch (what) {
            case 0: return now.people.size();
            case 1: return now.howMany();
            case 2: return Integer.bitCount(state(4));
            case 3: return (int) now.people.stream().filter(g -> g.pride == 99).count();
            case 4: return rows.size();
            case 5: return tape.length();
            case 6: return Math.min(30, trace.size());
            default: return -1;
        }
    }

    int keep() {
        kept = now.copy();
        return 1;
    }

    int again() {
        if (kept == null) return -3;
        now = kept.copy();
        return now.people.size();
    }
}
