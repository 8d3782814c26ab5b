import java.util.List;
import java.util.function.Supplier;
import java.util.function.ToLongFunction;

/**
 * Terms: refusals, and that a refused call changes nothing. Every number of every call is asked for just outside,
 * far outside, and at both ends of what it may be.
 */
public final class RefusalsTest {
    private static final int FEW = 3;

    /** A call, of which one number is left open. */
    private interface Open {
        long with(HiredClaque x, int v);
    }

    public static void main(String[] args) {
        tapeAndLaws();
        people();
        onesWithNumbers();
        minutes();
        tried();
        odds();
        rows();
        minds();
        sheets();
        items();
        shelves();
        taken();
        traceAndMany();
        full();
        nothingKept();
        noAct();
        refusedText();
        triedChangesNothing();
        Due.end();
    }

    // ---- Objects to be asked

    /** Some of everything: people, rows, sheets of sorts, shelves, a trace, a tape that lacks its end; kept before. */
    private static HiredClaque some(int people) {
        HiredClaque x = new HiredClaque();
        x.set(0, 3);
        x.person(4, 70, 6, 0);
        x.clap(0, 1);
        x.seed(-987654321);
        x.keep();
        for (int p = 1; p < people; p++) {
            x.person(p % 6, 7 * p, p + 1, p / 2);
            x.clap(p, p % 2);
        }
        x.set(1, 4);
        x.set(2, 2);
        x.set(3, 50);
        x.minutes(2);
        x.seed(123456789);
        sheetsAndShelves(x);
        x.prove(0, 4);
        x.act(0, 3, 5);
        Due.tell(x, "wall 7");
        return x;
    }

    private static void sheetsAndShelves(HiredClaque x) {
        x.sheet(0, 0, 4);
        x.sheet(2, 3, 2);
        x.sheet(3, 1, 0);
        for (int i = 0; i < 4; i++) {
            x.put(0, i, 40 * i - 1);
        }
        x.put(2, 1, -7);
        x.shelf(0, 0, 0);
        x.shelf(1, 1, 2);
        x.shelf(3, 0, 2);
    }

    private static HiredClaque few() {
        return some(FEW);
    }

    private static HiredClaque eight() {
        return some(8);
    }

    // ---- How they are asked

    private static void changesNothing(String what, Supplier<HiredClaque> made, ToLongFunction<HiredClaque> call) {
        HiredClaque asked = made.get();
        call.applyAsLong(asked);
        List<String> before = Snapshot.of(made.get());
        List<String> after = Snapshot.of(asked);
        for (int i = 0; i < before.size(); i++) {
            if (!before.get(i).equals(after.get(i))) {
                Due.eq(what + " changes " + before.get(i) + " to " + after.get(i), 1, 0);
            }
        }
    }

    private static void refused(String what, Supplier<HiredClaque> made, long due, ToLongFunction<HiredClaque> call) {
        Due.eq(what, call.applyAsLong(made.get()), due);
        changesNothing(what, made, call);
    }

    private static void taken(String what, Supplier<HiredClaque> made, long refusal, Open open, int v) {
        Due.eq(what + " with " + v + " is not refused", open.with(made.get(), v) == refusal ? 1 : 0, 0);
    }

    private static void below(String what, Supplier<HiredClaque> made, long refusal, Open open, int least) {
        for (int v : new int[] {least - 1, Integer.MIN_VALUE}) {
            refused(what + " with " + v, made, refusal, x -> open.with(x, v));
        }
        taken(what, made, refusal, open, least);
    }

    private static void above(String what, Supplier<HiredClaque> made, long refusal, Open open, int most) {
        for (int v : new int[] {most + 1, Integer.MAX_VALUE}) {
            refused(what + " with " + v, made, refusal, x -> open.with(x, v));
        }
        taken(what, made, refusal, open, most);
    }

    private static void range(String what, Supplier<HiredClaque> made, long refusal, int least, int most, Open open) {
        below(what, made, refusal, open, least);
        above(what, made, refusal, open, most);
    }

    private static void bad(String what, int least, int most, Open open) {
        range(what, RefusalsTest::few, -1, least, most, open);
        range(what + " of one of eight", RefusalsTest::eight, -1, least, most, open);
    }

    /** The number of one of PEOPLE: of few, of eight, and of nobody. */
    private static void badOne(String what, Open open) {
        range(what, RefusalsTest::few, -1, 0, FEW - 1, open);
        range(what + " of eight", RefusalsTest::eight, -1, 0, 7, open);
        for (int v : new int[] {0, -1, 7}) {
            refused(what + " of nobody", HiredClaque::new, -1, x -> open.with(x, v));
        }
    }

    // ---- What is asked

    private static void tapeAndLaws() {
        bad("2 feed n", 1, 8, (x, v) -> x.feed(-1L, v));
        bad("4 set law", 0, 3, (x, v) -> x.set(v, 1));
        bad("4 set pay", 0, 9, (x, v) -> x.set(0, v));
        bad("4 set cue", 1, 9, (x, v) -> x.set(1, v));
        bad("4 set wall", 0, 9, (x, v) -> x.set(2, v));
        bad("4 set wrong", 0, 99, (x, v) -> x.set(3, v));
        bad("5 lawOf", 0, 3, HiredClaque::lawOf);
    }

    private static void people() {
        Supplier<HiredClaque> few = RefusalsTest::few;
        range("6 person kind", few, -1, 0, 5, (x, v) -> x.person(v, 5, 5, 5));
        range("6 person pride", few, -1, 0, 99, (x, v) -> x.person(1, v, 5, 5));
        range("6 person ear", few, -1, 0, 9, (x, v) -> x.person(1, 5, v, 5));
        range("6 person room", few, -1, 0, 7, (x, v) -> x.person(1, 5, 5, v));
        bad("7 of what", 0, 4, (x, v) -> x.of(2, v));
        bad("8 does what", 0, 2, (x, v) -> x.does(2, v));
        bad("9 mind kind", 0, 5, (x, v) -> x.mind(2, v, 5));
        bad("9 mind ear", 0, 9, (x, v) -> x.mind(2, 5, v));
        bad("10 pride v", 0, 99, (x, v) -> x.pride(2, v));
        bad("11 move room", 0, 7, (x, v) -> x.move(2, v));
        bad("12 clap v", 0, 1, (x, v) -> x.clap(2, v));
        bad("13 room", 0, 7, (x, v) -> x.room(v, 0));
        bad("13 room, clap", 0, 7, (x, v) -> x.room(v, 1));
        bad("13 room what", 0, 1, (x, v) -> x.room(0, v));
    }

    private static void onesWithNumbers() {
        badOne("7 of", (x, v) -> x.of(v, 1));
        badOne("8 does loud", (x, v) -> x.does(v, 0));
        badOne("8 does needs", (x, v) -> x.does(v, 1));
        badOne("8 does hears", (x, v) -> x.does(v, 2));
        badOne("9 mind", (x, v) -> x.mind(v, 5, 9));
        badOne("10 pride", (x, v) -> x.pride(v, 99));
        badOne("11 move", (x, v) -> x.move(v, 6));
        badOne("12 clap", (x, v) -> x.clap(v, 1));
        badOne("12 clap not", (x, v) -> x.clap(v, 0));
        badOne("20 joins", HiredClaque::joins);
        badOne("23 roomFor", (x, v) -> x.roomFor(v, 2));
        badOne("24 kindFor", (x, v) -> x.kindFor(v, 2));
        badOne("25 earFor", (x, v) -> x.earFor(v, 2));
        badOne("26 begunFor", (x, v) -> x.begunFor(v, 2));
        badOne("29 fits", (x, v) -> x.fits(0, v, 0));
        badOne("32 prove", (x, v) -> x.prove(v, 2));
        badOne("35 judge", HiredClaque::judge);
        badOne("36 minds", (x, v) -> x.minds(0, 0, v, 0));
        badOne("40 shelf", (x, v) -> x.shelf(2, 0, v));
    }

    private static void minutes() {
        bad("14 minutes", 1, 60, HiredClaque::minutes);
        bad("17 stir", 1, 30, HiredClaque::stir);
        bad("18 state", 0, 5, HiredClaque::state);
        bad("19 clapping", 0, 60, HiredClaque::clapping);
    }

    private static void tried() {
        bad("23 roomFor n", 1, 20, (x, v) -> x.roomFor(1, v));
        bad("24 kindFor n", 1, 20, (x, v) -> x.kindFor(1, v));
        bad("25 earFor n", 1, 20, (x, v) -> x.earFor(1, v));
        bad("26 begunFor n", 1, 20, (x, v) -> x.begunFor(1, v));
        bad("27 hiredFor n", 1, 20, HiredClaque::hiredFor);
        bad("29 fits sheet", 0, 3, (x, v) -> x.fits(v, 1, 0));
        bad("29 fits what", 0, 1, (x, v) -> x.fits(0, 1, v));
        refused("29 fits of a missing sheet", RefusalsTest::few, -11, x -> x.fits(1, 0, 0));
        refused("29 the least that fits a missing sheet", RefusalsTest::few, -11, x -> x.fits(1, 0, 1));
    }

    private static void odds() {
        bad("30 odds n", 0, 8, (x, v) -> x.odds(v, 0, 0));
        bad("30 odds k", 0, 8, (x, v) -> x.odds(8, v, 1));
        bad("30 odds k of 3", 0, 3, (x, v) -> x.odds(3, v, 1));
        bad("30 odds k of 0", 0, 0, (x, v) -> x.odds(0, v, 1));
        bad("30 odds n as k", 0, 8, (x, v) -> x.odds(v, v, 0));
        bad("30 odds part", 0, 1, (x, v) -> x.odds(4, 2, v));
        bad("31 hope n", 0, 99, (x, v) -> x.hope(v, 1));
        bad("31 hope part", 0, 1, (x, v) -> x.hope(9, v));
    }

    private static void rows() {
        Supplier<HiredClaque> few = RefusalsTest::few;
        bad("32 prove n", 1, 10, (x, v) -> x.prove(1, v));
        range("33 row", few, -9, 0, 3, (x, v) -> x.row(v, 1));
        range("33 row what", few, -9, 0, 2, (x, v) -> x.row(2, v));
        range("34 alterRow", few, -9, 0, 3, (x, v) -> x.alterRow(v, 1, 77));
        range("34 alterRow what", few, -9, 0, 2, (x, v) -> x.alterRow(2, v, 77));
        for (int v : new int[] {0, -1, 9, 10}) {
            refused("33 no rows", HiredClaque::new, -9, x -> x.row(v, 0));
            refused("34 no rows", HiredClaque::new, -9, x -> x.alterRow(v, 0, 5));
        }
    }

    private static void minds() {
        Supplier<HiredClaque> few = RefusalsTest::few;
        bad("36 minds sheet", 0, 3, (x, v) -> x.minds(v, 0, 0, 1));
        range("36 minds n of three", few, -1, 0, 3, (x, v) -> x.minds(0, 0, 0, v));
        range("36 minds n of the last", few, -1, 0, 1, (x, v) -> x.minds(0, 0, 2, v));
        Supplier<HiredClaque> wide = RefusalsTest::eightBytes;
        range("36 minds n of eight", wide, -1, 0, 8, (x, v) -> x.minds(1, 0, 0, v));
        range("36 minds i for eight", wide, -12, 0, 1, (x, v) -> x.minds(1, v, 0, 8));
        range("36 minds i for none", few, -12, 0, 4, (x, v) -> x.minds(0, v, 0, 0));
        range("36 minds i for two", few, -12, 0, 2, (x, v) -> x.minds(0, v, 0, 2));
        refused("36 minds of a missing sheet", few, -11, x -> x.minds(1, 0, 0, 0));
        refused("36 minds of longs", few, -13, x -> x.minds(2, 0, 0, 0));
        refused("36 minds of shorts", few, -13, x -> x.minds(3, 0, 0, 0));
    }

    private static HiredClaque eightBytes() {
        HiredClaque x = eight();
        x.sheet(1, 0, 9);
        return x;
    }

    private static void sheets() {
        Supplier<HiredClaque> few = RefusalsTest::few;
        bad("37 sheet", 0, 3, (x, v) -> x.sheet(v, 2, 3));
        bad("37 sheet missing", 0, 3, (x, v) -> x.sheet(v, -1, 3));
        bad("37 sheet sort", -1, 3, (x, v) -> x.sheet(0, v, 3));
        for (int sort = 0; sort < 4; sort++) {
            int s = sort;
            above("37 sheet n", few, -1, (x, v) -> x.sheet(0, s, v), 40);
            below("37 sheet n", few, -14, (x, v) -> x.sheet(0, s, v), 0);
        }
        for (int n : new int[] {Integer.MIN_VALUE, -1, 0, 40, 41, Integer.MAX_VALUE}) {
            Due.eq("37 n counts nothing", few().sheet(0, -1, n), 1);
        }
    }

    private static void items() {
        Supplier<HiredClaque> few = RefusalsTest::few;
        bad("38 put sheet", 0, 3, (x, v) -> x.put(v, 0, 77));
        range("38 put i", few, -12, 0, 3, (x, v) -> x.put(0, v, 77));
        range("38 put i of longs", few, -12, 0, 1, (x, v) -> x.put(2, v, 77));
        refused("38 put into an empty row", few, -12, x -> x.put(3, 0, 77));
        refused("38 put into a missing row", few, -11, x -> x.put(1, 0, 77));
        bad("39 item sheet", 0, 3, (x, v) -> x.item(v, 1, 0));
        bad("39 item sort", 0, 3, (x, v) -> x.item(3, v, 0));
        range("39 item i", few, -12, 0, 3, (x, v) -> x.item(0, 0, v));
        range("39 item i of longs", few, -12, 0, 1, (x, v) -> x.item(2, 3, v));
        refused("39 item of an empty row", few, -12, x -> x.item(3, 1, 0));
        refused("39 item of a missing row", few, -11, x -> x.item(1, 0, 0));
        for (int sort = 1; sort < 4; sort++) {
            int s = sort;
            refused("39 bytes taken for another sort", few, -13, x -> x.item(0, s, 0));
        }
    }

    private static void shelves() {
        bad("40 shelf", 0, 3, (x, v) -> x.shelf(v, 0, 0));
        bad("40 shelf, row", 0, 3, (x, v) -> x.shelf(v, 1, 0));
        bad("40 shelf, nothing", 0, 3, (x, v) -> x.shelf(v, 2, 0));
        bad("40 shelf what", 0, 2, (x, v) -> x.shelf(0, v, 1));
        bad("40 shelf sheet", 0, 3, (x, v) -> x.shelf(0, 1, v));
        for (int n : new int[] {Integer.MIN_VALUE, -1, 0, 3, 4, 8, Integer.MAX_VALUE}) {
            Due.eq("40 nothing, whatever n is", few().shelf(0, 2, n), 1);
        }
    }

    private static void taken() {
        Supplier<HiredClaque> few = RefusalsTest::few;
        bad("41 taken", 0, 3, (x, v) -> x.taken(v, 0));
        below("41 taken as", few, -1, (x, v) -> x.taken(0, v), 0);
        above("41 taken as a row", few, -1, (x, v) -> x.taken(1, v), 13);
        for (int v = 6; v < 10; v++) {
            int as = v;
            refused("41 as " + v, few, -1, x -> x.taken(0, as));
            refused("41 a row as " + v, few, -1, x -> x.taken(1, as));
        }
        for (int as : new int[] {0, 5, 10, 13}) {
            refused("41 nothing", few, -11, x -> x.taken(2, as));
        }
        refused("41 another kind", few, -13, x -> x.taken(0, 1));
        refused("41 one as a row", few, -13, x -> x.taken(0, 10));
        refused("41 a row as one", few, -13, x -> x.taken(1, 0));
        refused("41 a row of another sort", few, -13, x -> x.taken(1, 10));
    }

    private static void traceAndMany() {
        int bodies = few().many(6);
        Due.eq("43 bodies of a chief that rises", bodies, 11);
        range("43 trace", RefusalsTest::few, -3, 0, bodies - 1, HiredClaque::trace);
        refused("43 no trace", HiredClaque::new, -3, x -> x.trace(0));
        bad("44 many", 0, 6, HiredClaque::many);
    }

    private static void full() {
        refused("6 a ninth", RefusalsTest::eight, -2, x -> x.person(1, 5, 5, 5));
        Due.eq("6 an eighth", some(7).person(1, 5, 5, 5), 7);
        Supplier<HiredClaque> tape = () -> {
            HiredClaque x = few();
            for (int i = 0; i < 24; i++) {
                x.feed(0x2020202020202020L, 8);
            }
            return x;
        };
        Due.eq("2 198 bytes", tape.get().many(5), 198);
        for (int n = 3; n <= 8; n++) {
            HiredClaque x = tape.get();
            Due.eq("2 beyond 200", x.feed(-1L, n), -2);
            Due.eq("2 nothing came", x.many(5), 198);
            x.feed(';', 1);
            Due.eq("2 and what was there stays", x.opera(), 0);
            Due.eq("2 and what was there stays", x.lawOf(2), 7);
        }
        Due.eq("2 to 200", tape.get().feed(-1L, 2), 200);
    }

    private static void nothingKept() {
        Supplier<HiredClaque> unkept = () -> {
            HiredClaque x = new HiredClaque();
            x.person(1, 2, 3, 4);
            x.minutes(3);
            sheetsAndShelves(x);
            x.seed(9);
            return x;
        };
        refused("46 nothing is kept", unkept, -3, HiredClaque::again);
    }

    /** An act that can't be answers 0 and leaves no TRACE; all else stays. */
    private static void noAct() {
        int[][] none = {{-1, 0}, {4, 0}, {Integer.MIN_VALUE, 0}, {Integer.MAX_VALUE, 0}, {0, -1}, {0, 4},
            {0, Integer.MIN_VALUE}, {0, Integer.MAX_VALUE}, {2, 0}, {1, 0}};
        for (int[] n : none) {
            HiredClaque x = few();
            Due.eq("42 no act", x.act(n[0], n[1], 5), 0);
            Due.eq("42 no trace then", x.many(6), 0);
            Due.eq("42 no trace then", x.trace(0), -3);
            changesNothing("42 no act", () -> actedOn(2, 0), y -> y.act(n[0], n[1], 5));
        }
    }

    private static HiredClaque actedOn(int shelf, int act) {
        HiredClaque x = few();
        x.act(shelf, act, 0);
        return x;
    }

    private static void refusedText() {
        String[] texts = {"x", "guest in 8;", "pay 9; wall 9; hand in 1; hand", "cue 0;", ";"};
        for (String text : texts) {
            Supplier<HiredClaque> emptied = () -> {
                HiredClaque x = few();
                Due.tell(x, ";");
                x.opera();
                x.again();
                x.prove(0, 2);
                Due.tell(x, "pay 4");
                return x;
            };
            HiredClaque y = emptied.get();
            Due.tell(y, "!");
            Due.eq("3 a refused text", y.opera(), -105);
            Due.eq("3 the tape is used up", y.many(5), 0);
            Due.tell(y, text);
            Due.eq("3 a refused text", y.opera() < -99 ? 1 : 0, 1);
            Due.eq("3 the tape is used up", y.many(5), 0);
            Due.tell(y, "pay 4");
            List<String> after = Snapshot.of(y);
            List<String> before = Snapshot.of(emptied.get());
            Due.eq("3 a refused text changes nothing: " + before + after, before.equals(after) ? 0 : 1, 0);
        }
    }

    /** Terms 2: what is asked there is TRIED; nothing changes. */
    private static void triedChangesNothing() {
        List<ToLongFunction<HiredClaque>> calls = List.of(x -> x.clapping(60), x -> x.joins(1), HiredClaque::all,
            HiredClaque::hush, HiredClaque::round, x -> x.roomFor(1, 20), x -> x.kindFor(1, 20), x -> x.earFor(1, 20),
            x -> x.begunFor(1, 20), x -> x.hiredFor(20), x -> x.fits(0, 1, 0), x -> x.fits(0, 1, 1), x -> x.stir(30),
            x -> x.odds(8, 4, 0), x -> x.hope(99, 1), x -> x.judge(0), x -> x.does(1, 2), x -> x.room(0, 1),
            x -> x.state(3), x -> x.taken(0, 0), x -> x.minds(0, 4, 0, 0));
        for (int i = 0; i < calls.size(); i++) {
            changesNothing("tried " + i, RefusalsTest::few, calls.get(i));
            changesNothing("tried " + i + " by eight", RefusalsTest::eight, calls.get(i));
            changesNothing("tried " + i + " by nobody", HiredClaque::new, calls.get(i));
        }
        for (int n = 1; n <= 10; n++) {
            int rows = n;
            Supplier<HiredClaque> proved = () -> {
                HiredClaque x = few();
                x.prove(1, rows);
                return x;
            };
            changesNothing("32 the same rows again", proved, x -> x.prove(1, rows));
        }
    }
}
