/** Promises 14 to 18: MINUTES, DRAWS, STIR and the state of all together. */
public final class MinutesTest {
    public static void main(String[] args) {
        minutes();
        heldPride();
        byAllAsItBegins();
        seeds();
        byDraws();
        wrongBySeed();
        oneAlone();
        eight();
        theGone();
        nobody();
        stir();
        state();
        Due.end();
    }

    private static void minutes() {
        HiredClaque x = new HiredClaque();
        x.person(0, 0, 0, 0);
        x.person(0, 0, 3, 0);
        x.clap(1, 1);
        Due.eq("14 the first hears the second", x.minutes(1), 1);
        Due.eq("14 who", x.state(1), 1);
        Due.eq("14 pride", x.of(0, 1), 2);
        Due.eq("14 pride", x.of(1, 1), 0);
        Due.eq("14 sixty", x.minutes(60), 1);
        Due.eq("14 minute", x.state(0), 61);
        Due.eq("14 pride of the first", x.of(0, 1), 2);
        Due.eq("14 pride of the second", x.of(1, 1), 60);
        Due.eq("14 n 0", x.minutes(0), -1);
        Due.eq("14 n 61", x.minutes(61), -1);
        Due.eq("14 n -1", x.minutes(-1), -1);
        Due.eq("14 minute stays", x.state(0), 61);
    }

    private static void heldPride() {
        HiredClaque x = new HiredClaque();
        x.person(0, 98, 9, 0);
        x.person(0, 98, 0, 0);
        x.minutes(2);
        Due.eq("14 held to 99", x.of(0, 1), 99);
        Due.eq("14 the alone hears nothing", x.of(1, 1), 98);
        HiredClaque y = new HiredClaque();
        y.person(0, 3, 9, 0);
        y.person(5, 0, 9, 0);
        y.clap(1, 1);
        y.minutes(1);
        Due.eq("14 held to 0", y.of(0, 1), 0);
    }

    private static void byAllAsItBegins() {
        // a wife needs what her pride as it begins leaves, whatever she hears then
        HiredClaque x = new HiredClaque();
        x.person(1, 9, 2, 0);
        x.person(0, 0, 3, 0);
        x.clap(1, 1);
        Due.eq("14 pride as it begins", x.minutes(1), 1);
        Due.eq("14 it needed 2", x.state(1), 1);
        HiredClaque y = new HiredClaque();
        y.person(1, 9, 3, 0);
        y.person(0, 0, 3, 0);
        y.clap(1, 1);
        Due.eq("14 pride 11 helps only then", y.minutes(1), 0);
        Due.eq("14 pride 11", y.of(0, 1), 11);
        Due.eq("14 needs 2 then", y.does(0, 1), 1002);
        // a hand is cued by the minute as it begins
        HiredClaque z = new HiredClaque();
        z.person(2, 0, 9, 0);
        int[] claps = {1, 0, 0, 1, 0, 0, 1};
        for (int minute = 0; minute < claps.length; minute++) {
            Due.eq("14 cued in " + minute, z.minutes(1), claps[minute]);
        }
    }

    private static void seeds() {
        HiredClaque x = new HiredClaque();
        Due.eq("15 first", x.seed(Integer.MIN_VALUE), 1);
        Due.eq("15 least", x.seed(-1), Integer.MIN_VALUE);
        Due.eq("15 below 0", x.seed(0), -1);
        Due.eq("15 0", x.seed(0), 0);
    }

    /** One of ear 9 that never claps by itself, and one of ear 4 that does when it hears that one. */
    private static HiredClaque pair(int wrong) {
        HiredClaque x = new HiredClaque();
        x.person(0, 0, 9, 0);
        x.person(0, 0, 4, 0);
        x.set(3, wrong);
        return x;
    }

    private static void byDraws() {
        HiredClaque x = pair(30);
        Due.eq("16 draws 16838 and 38526", x.minute(), 1);
        Due.eq("16 who", x.state(1), 2);
        Due.eq("16 pride", x.of(1, 1), 4);
        Due.eq("16 minute", x.state(0), 1);
        Due.eq("16 draws 10113 and 50283", x.minute(), 0);
        Due.eq("16 pride", x.of(0, 1), 2);
        Due.eq("16 z", x.seed(1), -999580867);
        x.clap(0, 1);
        x.pride(1, 0);
        Due.eq("16 one that claps stops", x.minute(), 0);
        Due.eq("16 not heard", x.of(1, 1), 0);
    }

    private static void wrongBySeed() {
        Due.eq("16 26 is not below 26", pair(26).minute(), 0);
        Due.eq("16 26 is below 27", pair(27).minute(), 1);
        HiredClaque x = pair(99);
        x.seed(-639453696);
        Due.eq("16 z below 0: draws 40187 and 48980, the second is wrong", x.minute(), 0);
        Due.eq("16 it was heard", x.of(0, 1), 2);
        HiredClaque y = pair(0);
        Due.eq("16 never wrong", y.minute(), 0);
        Due.eq("16 but drawn", y.seed(0), -1770082073);
    }

    private static void oneAlone() {
        HiredClaque x = new HiredClaque();
        x.person(0, 0, 9, 0);
        x.minute();
        Due.eq("16 two draws for one alone", x.seed(1), -1770082073);
    }

    /** Eight in one room, each loud by 1 and clapping: each hears the seven others. */
    private static void eight() {
        HiredClaque x = new HiredClaque();
        for (int p = 0; p < 8; p++) {
            x.person(0, 10, 2, p == 7 ? 3 : 2);
            x.clap(p, 1);
        }
        x.move(7, 2);
        Due.eq("18 all clap", x.state(1), 255);
        Due.eq("18 loud", x.state(3), 1008);
        Due.eq("18 pride", x.state(2), 80);
        Due.eq("18 ears", x.state(5), 16);
        Due.eq("18 rooms", x.state(4), 4);
        Due.eq("14 all hear the others", x.minutes(1), 8);
        Due.eq("18 pride then", x.state(2), 80 + 8 * 7);
        x.pride(7, 99);
        Due.eq("44 the last is proud", x.many(3), 1);
        Due.eq("13 all are there", x.room(2, 0), 255);
        Due.eq("27 all by nobody", x.hiredFor(1), 0);
    }

    /** What those that are gone have left is nothing of what is now. */
    private static void theGone() {
        HiredClaque x = new HiredClaque();
        x.person(0, 1, 1, 1);
        x.keep();
        x.person(0, 99, 9, 1);
        x.clap(1, 1);
        x.stir(1);
        x.again();
        Due.eq("18 rooms", x.state(4), 2);
        Due.eq("18 pride", x.state(2), 1);
        Due.eq("18 loud", x.state(3), 1000);
        Due.eq("44 proud", x.many(3), 0);
        Due.eq("8 nothing to hear", x.does(0, 2), 1000);
        Due.eq("13 in 1", x.room(1, 0), 1);
        x.move(0, 5);
        Due.eq("18 rooms", x.state(4), 32);
    }

    private static void nobody() {
        HiredClaque x = new HiredClaque();
        Due.eq("16 nobody", x.minute(), 0);
        Due.eq("16 no draw", x.seed(9), 1);
        Due.eq("16 a minute", x.state(0), 1);
        Due.eq("17 nobody", x.stir(30), 0);
    }

    private static void stir() {
        HiredClaque x = pair(99);
        int[] want = {1, 1, 1, 2, 3, 3};
        for (int n = 1; n <= 6; n++) {
            Due.eq("17 stir " + n, x.stir(n), want[n - 1]);
        }
        Due.eq("17 z stays", x.seed(1), 1);
        Due.eq("17 minute stays", x.state(0), 0);
        Due.eq("17 nobody claps", x.state(1), 0);
        Due.eq("17 pride stays", x.state(2), 0);
        Due.eq("17 n 0", x.stir(0), -1);
        Due.eq("17 n 31", x.stir(31), -1);
        Due.eq("17 n -1", x.stir(-1), -1);
        x.set(3, 0);
        Due.eq("17 as many are not more", x.stir(30), 0);
        HiredClaque y = pair(99);
        y.clap(0, 1);
        Due.eq("17 by a minute one claps", y.stir(6), 0);
        HiredClaque joining = new HiredClaque();
        joining.person(0, 0, 0, 0);
        Due.eq("17 not more than behind a minute", joining.stir(30), 0);
        HiredClaque three = new HiredClaque();
        three.person(0, 0, 0, 0);
        three.person(0, 0, 1, 0);
        three.set(3, 0);
        Due.eq("17 each is tried from now", three.stir(5), 0);
    }

    private static void state() {
        HiredClaque x = new HiredClaque();
        Due.eq("18 loud of nobody", x.state(3), 1000);
        x.person(4, 70, 6, 0);
        x.person(5, 30, 9, 7);
        x.person(1, 1, 3, 7);
        x.clap(1, 1);
        x.clap(2, 1);
        Due.eq("18 minute", x.state(0), 0);
        Due.eq("18 clap", x.state(1), 6);
        Due.eq("18 pride", x.state(2), 101);
        Due.eq("18 loud", x.state(3), 999);
        Due.eq("18 rooms", x.state(4), 129);
        Due.eq("18 ears", x.state(5), 18);
        Due.eq("18 what 6", x.state(6), -1);
        Due.eq("18 what -1", x.state(-1), -1);
        x.clap(0, 1);
        Due.eq("18 loud with the chief", x.state(3), 1011);
    }
}
