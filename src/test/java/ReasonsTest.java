/** Terms: "of several the first named": calls that could be refused for more than one reason. */
public final class ReasonsTest {
    private static final int LEAST = Integer.MIN_VALUE, MOST = Integer.MAX_VALUE;

    public static void main(String[] args) {
        badBeforeFull();
        badBeforeNone();
        fits();
        minds();
        mindsFarOutside();
        sheet();
        put();
        item();
        taken();
        Due.end();
    }

    private static void badBeforeFull() {
        HiredClaque x = new HiredClaque();
        for (int i = 0; i < 25; i++) {
            x.feed(0, 8);
        }
        for (int n : new int[] {LEAST, -1, 0, 9, MOST}) {
            Due.eq("2 bad before full", x.feed(0, n), -1);
        }
        Due.eq("2 full", x.feed(0, 8), -2);
        for (int i = 0; i < 8; i++) {
            x.person(0, 0, 0, 0);
        }
        int[][] bad = {{6, 0, 0, 0}, {-1, 0, 0, 0}, {0, 100, 0, 0}, {0, -1, 0, 0}, {0, 0, 10, 0}, {0, 0, -1, 0},
            {0, 0, 0, 8}, {0, 0, 0, -1}, {LEAST, MOST, LEAST, MOST}};
        for (int[] b : bad) {
            Due.eq("6 bad before full", x.person(b[0], b[1], b[2], b[3]), -1);
        }
        Due.eq("6 full", x.person(5, 99, 9, 7), -2);
    }

    /** One that no others and no hire ever bring to clap: it is asked for out of range, too. */
    private static void badBeforeNone() {
        HiredClaque x = new HiredClaque();
        x.person(5, 0, 9, 0);
        x.set(1, 9);
        x.minutes(1);
        Due.eq("20 none", x.joins(0), -3);
        Due.eq("20 bad", x.joins(1), -1);
        Due.eq("26 none", x.begunFor(0, 1), -3);
        Due.eq("27 none", x.hiredFor(1), -3);
        for (int n : new int[] {LEAST, -1, 0, 21, MOST}) {
            Due.eq("26 bad before none", x.begunFor(0, n), -1);
            Due.eq("27 bad before none", x.hiredFor(n), -1);
        }
        Due.eq("26 bad before none", x.begunFor(1, 1), -1);
        x.sheet(0, 0, 1);
        x.put(0, 0, 9);
        Due.eq("29 none", x.fits(0, 0, 1), -3);
        Due.eq("29 bad before none", x.fits(0, 0, 2), -1);
        Due.eq("29 bad before none", x.fits(0, 1, 1), -1);
    }

    private static void fits() {
        HiredClaque x = new HiredClaque();
        x.person(0, 0, 0, 0);
        Due.eq("29 missing", x.fits(1, 0, 0), -11);
        int[][] bad = {{1, 1, 0}, {1, -1, 1}, {1, LEAST, 0}, {1, MOST, 1}, {1, 0, 2}, {1, 0, -1}, {1, 0, LEAST}, {1, 0, MOST}};
        for (int[] b : bad) {
            Due.eq("29 bad before a missing sheet", x.fits(b[0], b[1], b[2]), -1);
        }
        Due.eq("29 no such sheet, one", x.fits(4, 1, 2), -1);
    }

    /** Two people; sheet 0 of two bytes, 1 missing, 2 of two longs. */
    private static HiredClaque two() {
        HiredClaque x = new HiredClaque();
        x.person(0, 11, 0, 0);
        x.person(0, 12, 0, 0);
        x.sheet(0, 0, 2);
        x.sheet(2, 3, 2);
        return x;
    }

    private static void minds() {
        HiredClaque x = two();
        int[][] bad = {{9, 2, 0}, {9, -1, 0}, {9, 0, 3}, {9, 1, 2}, {9, 0, -1}, {9, 0, 9}, {-1, 0, LEAST}, {3, 0, MOST},
            {0, MOST, MOST}, {0, 1, MOST}};
        for (int[] b : bad) {
            Due.eq("36 bad before outside", x.minds(0, b[0], b[1], b[2]), -1);
            Due.eq("36 bad before missing", x.minds(1, b[0], b[1], b[2]), -1);
            Due.eq("36 bad before another sort", x.minds(2, b[0], b[1], b[2]), -1);
            Due.eq("36 no such sheet, too", x.minds(4, b[0], b[1], b[2]), -1);
        }
        for (int i : new int[] {LEAST, -1, 0, 2, 3, MOST}) {
            Due.eq("36 missing before outside", x.minds(1, i, 0, 2), -11);
            Due.eq("36 another sort before outside", x.minds(2, i, 0, 2), -13);
        }
        Due.eq("36 missing for none", x.minds(1, 0, 0, 0), -11);
        Due.eq("36 another sort for none", x.minds(2, 0, 0, 0), -13);
    }

    /** A place and a number whose sum would wrap. */
    private static void mindsFarOutside() {
        HiredClaque x = two();
        for (int n = 0; n <= 2; n++) {
            Due.eq("36 far outside", x.minds(0, MOST, 0, n), -12);
            Due.eq("36 far outside", x.minds(0, MOST - 1, 0, n), -12);
            Due.eq("36 far below", x.minds(0, LEAST, 0, n), -12);
            Due.eq("36 far below", x.minds(0, LEAST + 1, 0, n), -12);
        }
        Due.eq("36 one and n wrap", x.minds(0, 0, 1, MOST), -1);
        Due.eq("36 one and n wrap", x.minds(0, 0, MOST, 1), -1);
        Due.eq("36 one and n wrap", x.minds(0, 0, MOST, MOST), -1);
        Due.eq("36 pride stays", x.of(0, 1), 11);
        Due.eq("36 pride stays", x.of(1, 1), 12);
    }

    private static void sheet() {
        HiredClaque x = new HiredClaque();
        for (int n : new int[] {LEAST, -1}) {
            Due.eq("37 a size below 0", x.sheet(0, 0, n), -14);
            Due.eq("37 no such sheet, before", x.sheet(4, 0, n), -1);
            Due.eq("37 no such sheet, before", x.sheet(-1, 3, n), -1);
            Due.eq("37 no such sort, before", x.sheet(0, 4, n), -1);
            Due.eq("37 no such sort, before", x.sheet(0, -2, n), -1);
        }
        Due.eq("37 no such sheet becomes missing", x.sheet(4, -1, 0), -1);
        Due.eq("37 no such sheet becomes missing", x.sheet(-1, -1, -1), -1);
    }

    private static void put() {
        HiredClaque x = two();
        for (int i : new int[] {LEAST, -1, 2, MOST}) {
            Due.eq("38 no such sheet before outside", x.put(4, i, 1), -1);
            Due.eq("38 no such sheet before outside", x.put(-1, i, 1), -1);
            Due.eq("38 missing before outside", x.put(1, i, 1), -11);
            Due.eq("38 outside", x.put(0, i, 1), -12);
        }
    }

    private static void item() {
        HiredClaque x = two();
        for (int i : new int[] {LEAST, -1, 2, MOST}) {
            Due.eq("39 no such sheet before outside", x.item(4, 0, i), -1);
            Due.eq("39 no such sort before outside", x.item(0, 4, i), -1);
            Due.eq("39 no such sort before missing", x.item(1, -1, i), -1);
            Due.eq("39 missing before outside", x.item(1, 0, i), -11);
            Due.eq("39 another sort before outside", x.item(0, 1, i), -13);
            Due.eq("39 outside", x.item(0, 0, i), -12);
        }
        Due.eq("39 no such sort before another sort", x.item(2, 4, 0), -1);
    }

    private static void taken() {
        HiredClaque x = two();
        for (int as : new int[] {LEAST, -1, 6, 7, 8, 9, 14, MOST}) {
            Due.eq("41 no such kind before nothing", x.taken(0, as), -1);
        }
        for (int shelf : new int[] {LEAST, -1, 4, MOST}) {
            Due.eq("41 no such shelf before nothing", x.taken(shelf, 0), -1);
        }
        for (int as : new int[] {0, 1, 2, 3, 4, 5, 10, 11, 12, 13}) {
            Due.eq("41 nothing before another", x.taken(0, as), -11);
        }
        x.shelf(0, 0, 0);
        Due.eq("41 no such kind before another", x.taken(0, 6), -1);
        x.shelf(0, 1, 0);
        Due.eq("41 no such sort before another", x.taken(0, 14), -1);
    }
}
