/** Promises 19 to 29: what is TRIED; nothing changes by it. */
public final class TriedTest {
    public static void main(String[] args) {
        clapping();
        joins();
        lateJoins();
        hush();
        round();
        roomFor();
        kindFor();
        earFor();
        begunFor();
        hiredFor();
        fits();
        fitsRefused();
        nothingChanges();
        Due.end();
    }

    /** One that always claps from the first minute, and one that follows it. */
    private static HiredClaque followed() {
        HiredClaque x = new HiredClaque();
        x.person(0, 0, 0, 0);
        x.person(0, 0, 1, 0);
        return x;
    }

    /** A clapping guest, and a wife that claps first when her pride has come to 60. */
    private static HiredClaque slow(int pride) {
        HiredClaque x = new HiredClaque();
        x.person(0, 0, 0, 0);
        x.person(1, pride, 7, 0);
        x.clap(0, 1);
        return x;
    }

    private static void clapping() {
        HiredClaque x = followed();
        Due.eq("19 now", x.clapping(0), 0);
        Due.eq("19 behind 1", x.clapping(1), 1);
        Due.eq("19 behind 2", x.clapping(2), 3);
        Due.eq("19 behind 59", slow(1).clapping(59), 1);
        Due.eq("19 behind 60", slow(1).clapping(60), 3);
        Due.eq("19 n 61", x.clapping(61), -1);
        Due.eq("19 n -1", x.clapping(-1), -1);
    }

    private static void joins() {
        HiredClaque x = followed();
        Due.eq("20 the first", x.joins(0), 1);
        Due.eq("20 the second", x.joins(1), 2);
        Due.eq("21 all", x.all(), 2);
        x.clap(1, 1);
        Due.eq("20 at once", x.joins(1), 0);
        x.clap(0, 1);
        Due.eq("21 at once", x.all(), 0);
        Due.eq("20 one 2", x.joins(2), -1);
        Due.eq("20 one -1", x.joins(-1), -1);
        x.person(0, 0, 9, 4);
        Due.eq("20 never", x.joins(2), -3);
        Due.eq("21 never", x.all(), -3);
    }

    private static void lateJoins() {
        Due.eq("20 behind 60", slow(1).joins(1), 60);
        Due.eq("20 behind 61", slow(0).joins(1), -3);
        Due.eq("21 behind 60", slow(1).all(), 60);
        Due.eq("21 behind 61", slow(0).all(), -3);
        HiredClaque x = slow(1);
        x.clap(1, 1);
        Due.eq("28 behind 60", x.round(), 60);
        x.pride(1, 0);
        Due.eq("28 behind 61", x.round(), -3);
        HiredClaque y = new HiredClaque();
        Due.eq("21 nobody", y.all(), 0);
    }

    private static void hush() {
        HiredClaque x = new HiredClaque();
        Due.eq("22 nobody", x.hush(), 0);
        x.person(2, 0, 9, 0);
        Due.eq("22 quiet now", x.hush(), 0);
        x.clap(0, 1);
        Due.eq("22 behind the cue", x.hush(), 2);
        x.set(1, 1);
        Due.eq("22 cued always", x.hush(), -3);
        x.set(1, 9);
        x.minutes(1);
        Due.eq("22 no cue", x.hush(), 1);
    }

    private static void round() {
        HiredClaque x = new HiredClaque();
        Due.eq("28 nobody", x.round(), 1);
        x.person(2, 0, 9, 0);
        Due.eq("28 quiet again", x.round(), 2);
        x.clap(0, 1);
        Due.eq("28 behind 1", x.round(), 1);
        x.clap(0, 0);
        x.set(1, 1);
        Due.eq("28 never quiet", x.round(), -3);
        x.set(1, 9);
        x.minutes(1);
        Due.eq("28 by the cue", x.round(), 9);
    }

    private static void roomFor() {
        HiredClaque x = new HiredClaque();
        x.person(0, 0, 0, 0);
        x.person(2, 0, 9, 4);
        x.set(1, 1);
        Due.eq("23 nothing to hear: the least", x.roomFor(0, 1), 0);
        Due.eq("23 the hand's room", x.roomFor(0, 2), 4);
        Due.eq("23 of 20", x.roomFor(0, 20), 4);
        x.clap(1, 1);
        Due.eq("23 at once", x.roomFor(0, 1), 4);
        x.pride(0, 96);
        Due.eq("23 held at 99: the least", x.roomFor(0, 1), 3);
        x.move(1, 7);
        Due.eq("23 rooms are round", x.roomFor(0, 1), 0);
        x.mind(1, 5, 9);
        Due.eq("23 away from the rival", x.roomFor(0, 1), 1);
        Due.eq("23 n 0", x.roomFor(0, 0), -1);
        Due.eq("23 n 21", x.roomFor(0, 21), -1);
        Due.eq("23 one 2", x.roomFor(2, 1), -1);
        Due.eq("23 one -1", x.roomFor(-1, 1), -1);
    }

    /** One that claps now, and another in its room that it may bring to clap. */
    private static HiredClaque two(int pride, int ear, int otherKind, int otherEar, int pay) {
        HiredClaque x = new HiredClaque();
        x.person(0, pride, ear, 2);
        x.person(otherKind, 0, otherEar, 2);
        x.clap(0, 1);
        x.set(0, pay);
        return x;
    }

    private static void kindFor() {
        Due.eq("24 n 1: all the same", two(0, 3, 0, 3, 2).kindFor(0, 1), 0);
        Due.eq("24 wife", two(0, 3, 0, 3, 2).kindFor(0, 2), 1);
        Due.eq("24 hand", two(0, 3, 0, 4, 2).kindFor(0, 2), 2);
        Due.eq("24 cook", two(0, 3, 0, 4, 1).kindFor(0, 2), 3);
        Due.eq("24 chief", two(70, 3, 0, 9, 0).kindFor(0, 2), 4);
        Due.eq("24 rival", two(9, 6, 5, 0, 2).kindFor(0, 2), 5);
        Due.eq("24 held at 99", two(99, 3, 0, 9, 0).kindFor(0, 2), 0);
        HiredClaque x = two(0, 3, 0, 3, 2);
        x.mind(0, 5, 3);
        Due.eq("24 whatever it is now", x.kindFor(0, 2), 1);
        Due.eq("24 n 0", x.kindFor(0, 0), -1);
        Due.eq("24 n 21", x.kindFor(0, 21), -1);
        Due.eq("24 one 2", x.kindFor(2, 1), -1);
        Due.eq("24 one -1", x.kindFor(-1, 1), -1);
    }

    private static void earFor() {
        Due.eq("25 n 1: all the same", two(0, 3, 0, 3, 2).earFor(0, 1), 0);
        Due.eq("25 loud by 3", two(0, 3, 0, 3, 2).earFor(0, 2), 6);
        Due.eq("25 loud by 4", two(0, 3, 0, 4, 2).earFor(0, 2), 9);
        Due.eq("25 never", two(0, 3, 0, 5, 2).earFor(0, 2), 0);
        HiredClaque x = two(0, 3, 0, 3, 2);
        Due.eq("25 n 0", x.earFor(0, 0), -1);
        Due.eq("25 n 21", x.earFor(0, 21), -1);
        Due.eq("25 one 2", x.earFor(2, 1), -1);
        Due.eq("25 one -1", x.earFor(-1, 1), -1);
    }

    private static void begunFor() {
        HiredClaque x = new HiredClaque();
        x.person(0, 0, 3, 0);
        x.person(0, 0, 3, 0);
        x.person(0, 0, 6, 0);
        x.person(1, 0, 0, 0);
        x.person(5, 0, 9, 0);
        x.clap(4, 1);
        Due.eq("26 one is enough, the rival is quiet", x.begunFor(0, 1), 4);
        x.move(2, 4);
        Due.eq("26 two", x.begunFor(0, 1), 10);
        x.mind(0, 0, 2);
        Due.eq("26 the least of two", x.begunFor(0, 1), 2);
        x.mind(0, 0, 9);
        Due.eq("26 by none", x.begunFor(0, 1), -3);
        x.mind(0, 0, 0);
        Due.eq("26 by nobody", x.begunFor(0, 1), 0);
        Due.eq("26 not by itself", followed().begunFor(1, 1), 1);
        HiredClaque alone = new HiredClaque();
        alone.person(0, 0, 1, 0);
        alone.clap(0, 1);
        Due.eq("26 it itself doesn't clap now", alone.begunFor(0, 2), -3);
        HiredClaque echo = new HiredClaque();
        echo.person(1, 30, 9, 0);
        echo.person(3, 0, 3, 0);
        echo.clap(0, 1);
        Due.eq("26 by itself it would", echo.clapping(2) & 1, 1);
        Due.eq("26 but others are asked for", echo.begunFor(0, 2), -3);
        Due.eq("26 behind 20", followed().begunFor(1, 20), 0);
        Due.eq("26 n 0", x.begunFor(0, 0), -1);
        Due.eq("26 n 21", x.begunFor(0, 21), -1);
        Due.eq("26 one 5", x.begunFor(5, 1), -1);
        Due.eq("26 one -1", x.begunFor(-1, 1), -1);
    }

    private static void hiredFor() {
        HiredClaque x = new HiredClaque();
        Due.eq("27 nobody", x.hiredFor(1), 0);
        x.person(0, 0, 9, 0);
        x.person(4, 0, 9, 0);
        Due.eq("27 the guest alone: a chief is cued, too", x.hiredFor(1), 1);
        x.mind(1, 3, 9);
        Due.eq("27 both", x.hiredFor(1), 3);
        Due.eq("27 none behind 2", x.hiredFor(2), -3);
        x.set(0, 5);
        Due.eq("27 by more pay", x.hiredFor(2), 3);
        x.mind(0, 0, 0);
        Due.eq("27 the first claps anyway", x.hiredFor(1), 2);
        x.mind(1, 0, 0);
        Due.eq("27 no one", x.hiredFor(20), 0);
        Due.eq("27 n 0", x.hiredFor(0), -1);
        Due.eq("27 n 21", x.hiredFor(21), -1);
        Due.eq("27 n -1", x.hiredFor(-1), -1);
    }

    /** Ears 0, 1 and 2, and from 3 on clap otherwise: see the rows of fits(). */
    private static HiredClaque heard(int sort, int... numbers) {
        HiredClaque x = new HiredClaque();
        x.person(0, 0, 5, 0);
        x.person(0, 0, 2, 0);
        x.clap(0, 1);
        x.sheet(3, sort, numbers.length);
        for (int i = 0; i < numbers.length; i++) {
            x.put(3, i, numbers[i]);
        }
        return x;
    }

    private static void fitsAre(int howMany, int least, HiredClaque x) {
        Due.eq("29 how many", x.fits(3, 0, 0), howMany);
        Due.eq("29 the least", x.fits(3, 0, 1), least);
    }

    private static void fits() {
        for (int sort = 0; sort < 4; sort++) {
            fitsAre(8, 0, heard(sort, 1));
            fitsAre(7, 3, heard(sort, 1, 0));
            fitsAre(2, 1, heard(sort, 0));
            fitsAre(1, 0, heard(sort, -1, 1));
            fitsAre(0, -3, heard(sort, 2));
            fitsAre(0, -3, heard(sort, 1, 2));
            fitsAre(0, -3, heard(sort, -2));
            fitsAre(10, 0, heard(sort));
            fitsAre(10, 0, heard(sort, -1, -1, -1));
        }
        fitsAre(10, 0, heard(0, 255));
        fitsAre(8, 0, heard(0, 257));
        fitsAre(0, -3, heard(1, 257));
    }

    private static void fitsRefused() {
        HiredClaque x = heard(0, 1);
        Due.eq("29 sheet 4", x.fits(4, 0, 0), -1);
        Due.eq("29 sheet -1", x.fits(-1, 0, 0), -1);
        Due.eq("29 one 2", x.fits(3, 2, 0), -1);
        Due.eq("29 one -1", x.fits(3, -1, 0), -1);
        Due.eq("29 what 2", x.fits(3, 0, 2), -1);
        Due.eq("29 what -1", x.fits(3, 0, -1), -1);
        Due.eq("29 missing", x.fits(2, 0, 0), -11);
        Due.eq("29 missing", x.fits(2, 0, 1), -11);
        Due.eq("29 bad before missing", x.fits(2, 2, 0), -1);
        Due.eq("29 bad before missing", x.fits(2, 0, 2), -1);
    }

    private static void nothingChanges() {
        HiredClaque x = heard(0, 1, 1);
        x.set(3, 99);
        x.clapping(9);
        x.joins(0);
        x.all();
        x.hush();
        x.round();
        x.roomFor(0, 9);
        x.kindFor(0, 9);
        x.earFor(0, 9);
        x.begunFor(0, 9);
        x.hiredFor(9);
        x.fits(3, 0, 0);
        x.stir(9);
        x.prove(0, 9);
        x.judge(0);
        int[][] want = {{0, 0, 5, 0, 1}, {0, 0, 2, 0, 0}};
        for (int p = 0; p < 2; p++) {
            for (int what = 0; what < 5; what++) {
                Due.eq("nothing changes " + p + ", " + what, x.of(p, what), want[p][what]);
            }
        }
        Due.eq("nothing changes, minute", x.state(0), 0);
        Due.eq("nothing changes, z", x.seed(1), 1);
    }
}
