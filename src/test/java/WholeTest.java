/** Promises 44 to 46: how many there are, and houses kept. */
public final class WholeTest {
    public static void main(String[] args) {
        many();
        keep();
        keptOften();
        notKept();
        Due.end();
    }

    private static void many() {
        HiredClaque x = new HiredClaque();
        x.person(0, 99, 0, 1);
        x.person(5, 98, 0, 1);
        x.person(2, 99, 3, 6);
        x.clap(0, 1);
        x.clap(2, 1);
        x.prove(1, 7);
        Due.tell(x, "pay");
        x.shelf(0, 0, 2);
        x.act(0, 3, 0);
        int[] want = {3, 2, 2, 2, 7, 3, 6};
        for (int what = 0; what < want.length; what++) {
            Due.eq("44 many " + what, x.many(what), want[what]);
        }
        Due.eq("44 what 7", x.many(7), -1);
        Due.eq("44 what -1", x.many(-1), -1);
    }

    private static HiredClaque house() {
        HiredClaque x = Due.told("guest in 1 pride 5 ear 0 claps; hand in 2 ear 4; pay 3; cue 4; wall 5; wrong 6;");
        x.minutes(2);
        x.seed(88);
        return x;
    }

    private static void houseIs(String when, HiredClaque x) {
        int[][] want = {{0, 5, 0, 1, 1}, {2, 0, 4, 2, 0}};
        Due.eq(when + " people", x.many(0), 2);
        for (int p = 0; p < 2; p++) {
            for (int what = 0; what < 5; what++) {
                Due.eq(when + " of " + p + ", " + what, x.of(p, what), want[p][what]);
            }
        }
        int[] laws = {3, 4, 5, 6};
        for (int law = 0; law < 4; law++) {
            Due.eq(when + " law " + law, x.lawOf(law), laws[law]);
        }
        Due.eq(when + " minute", x.state(0), 2);
    }

    private static void change(HiredClaque x) {
        x.mind(0, 5, 9);
        x.pride(1, 44);
        x.move(0, 7);
        x.clap(0, 0);
        x.clap(1, 1);
        x.person(1, 1, 1, 1);
        x.set(0, 9);
        x.set(1, 9);
        x.set(2, 9);
        x.set(3, 9);
        x.minutes(7);
        x.seed(89);
    }

    private static void keep() {
        HiredClaque x = house();
        houseIs("first", x);
        Due.eq("46 nothing is kept", x.again(), -3);
        Due.eq("45 keep", x.keep(), 1);
        houseIs("45 kept", x);
        change(x);
        Due.eq("46 again", x.again(), 2);
        houseIs("46", x);
        Due.eq("46 z", x.seed(1), 88);
        change(x);
        Due.eq("46 it stays", x.again(), 2);
        houseIs("46 the second time", x);
        Due.eq("46 z of the second time", x.seed(1), 88);
    }

    private static void keptOften() {
        HiredClaque x = house();
        x.keep();
        x.person(0, 0, 0, 0);
        x.keep();
        x.person(0, 0, 0, 0);
        Due.eq("46 the latest", x.again(), 3);
        HiredClaque y = new HiredClaque();
        y.keep();
        y.person(0, 0, 0, 0);
        Due.eq("46 nobody is kept, too", y.again(), 0);
        Due.eq("46 nobody", y.many(0), 0);
    }

    private static void notKept() {
        HiredClaque x = house();
        Due.tell(x, "pay");
        x.prove(0, 1);
        x.sheet(0, 0, 1);
        x.shelf(0, 2, 0);
        x.keep();
        Due.tell(x, " 7;");
        x.prove(0, 4);
        x.sheet(0, 1, 6);
        x.shelf(0, 1, 0);
        x.shelf(1, 0, 1);
        x.act(1, 0, 0);
        x.again();
        Due.eq("45 the tape is not kept", x.many(5), 6);
        Due.eq("45 rows are not", x.many(4), 4);
        Due.eq("45 sheets are not", x.item(0, 1, 5), 0);
        Due.eq("45 shelves are not", x.taken(0, 11), 6);
        Due.eq("45 the trace is not", x.many(6), 2);
        Due.eq("45 the tape can be read", x.opera(), 0);
        Due.eq("45 pay", x.lawOf(0), 7);
    }
}
