/** Promises 40 to 43: SHELVES, ACTS, BODIES and THE TRACE. */
public final class ActsTest {
    public static void main(String[] args) {
        taken();
        rowsOnShelves();
        shelvesRefused();
        heldByNumber();
        guest();
        wife();
        hand();
        cook();
        chief();
        rival();
        parted();
        wraps();
        noAct();
        Due.end();
    }

    /** One of each kind, numbered as the kinds are. */
    private static HiredClaque six() {
        HiredClaque x = new HiredClaque();
        int[] ears = {3, 4, 5, 8, 9, 7};
        for (int kind = 0; kind < 6; kind++) {
            x.person(kind, 0, ears[kind], 0);
        }
        return x;
    }

    private static void taken() {
        HiredClaque x = six();
        // the kinds, as bits, for which each may be taken
        int[] as = {1, 3, 5, 11, 21, 33};
        for (int p = 0; p < 6; p++) {
            Due.eq("40 one " + p, x.shelf(2, 0, p), 1);
            for (int kind = 0; kind < 6; kind++) {
                Due.eq("41 " + p + " as " + kind, x.taken(2, kind), (as[p] & 1 << kind) != 0 ? p : -13);
            }
            for (int row = 10; row < 14; row++) {
                Due.eq("41 as a row", x.taken(2, row), -13);
            }
        }
    }

    private static void rowsOnShelves() {
        HiredClaque x = six();
        for (int sort = 0; sort < 4; sort++) {
            x.sheet(1, sort, sort + 5);
            Due.eq("40 a row", x.shelf(3, 1, 1), 1);
            for (int as = 10; as < 14; as++) {
                Due.eq("41 sort " + sort + " as " + as, x.taken(3, as), as == sort + 10 ? sort + 5 : -13);
            }
            Due.eq("41 a row as a guest", x.taken(3, 0), -13);
        }
        x.sheet(1, 0, 9);
        Due.eq("40 the row itself is held", x.taken(3, 13), 8);
        x.sheet(1, -1, 0);
        Due.eq("40 it is held, if its sheet is missing, too", x.taken(3, 13), 8);
        Due.eq("40 a missing row", x.shelf(3, 1, 1), 1);
        Due.eq("41 nothing", x.taken(3, 13), -11);
        x.shelf(3, 0, 0);
        x.shelf(3, 1, 1);
        Due.eq("41 nothing for a missing row", x.taken(3, 0), -11);
        x.shelf(3, 0, 0);
        Due.eq("40 nothing", x.shelf(3, 2, -77), 1);
        Due.eq("41 nothing", x.taken(3, 0), -11);
        x.sheet(1, 2, 0);
        x.shelf(3, 1, 1);
        Due.eq("41 an empty row", x.taken(3, 12), 0);
        x.shelf(3, 2, 0);
        Due.eq("41 nothing behind a row", x.taken(3, 12), -11);
        x.shelf(3, 1, 1);
        x.shelf(3, 0, 4);
        Due.eq("41 one behind a row", x.taken(3, 4), 4);
    }

    private static void shelvesRefused() {
        HiredClaque x = six();
        x.shelf(0, 0, 1);
        int[][] bad = {{4, 0, 0}, {-1, 0, 0}, {0, 3, 0}, {0, -1, 0}, {0, 0, 6}, {0, 0, -1}, {0, 1, 4}, {0, 1, -1}};
        for (int[] b : bad) {
            Due.eq("40 bad", x.shelf(b[0], b[1], b[2]), -1);
        }
        Due.eq("40 it stays", x.taken(0, 1), 1);
        int[] noAs = {-1, 6, 9, 14, Integer.MIN_VALUE, Integer.MAX_VALUE};
        for (int as : noAs) {
            Due.eq("41 as " + as, x.taken(0, as), -1);
            Due.eq("41 bad before nothing", x.taken(1, as), -1);
        }
        Due.eq("41 shelf 4", x.taken(4, 0), -1);
        Due.eq("41 shelf -1", x.taken(-1, 0), -1);
        Due.eq("41 nothing", x.taken(1, 0), -11);
        Due.eq("41 nothing", x.taken(1, 10), -11);
    }

    private static void heldByNumber() {
        HiredClaque x = new HiredClaque();
        x.person(0, 0, 3, 0);
        x.keep();
        x.person(0, 0, 5, 0);
        x.shelf(0, 0, 1);
        x.mind(1, 2, 6);
        Due.eq("41 it is a hand now", x.taken(0, 2), 1);
        Due.eq("42 and coughs as one", x.act(0, 0, 7), 1);
        x.again();
        Due.eq("41 there is no such one", x.taken(0, 0), -11);
        Due.eq("42 nothing", x.act(0, 0, 7), 0);
        x.person(1, 0, 3, 0);
        Due.eq("41 another has its number", x.taken(0, 1), 1);
    }

    private static void actIs(HiredClaque x, int shelf, int act, int n, int want, int... trace) {
        Due.eq("42 act " + act + " with " + n, x.act(shelf, act, n), want);
        Due.eq("44 bodies", x.many(6), trace.length);
        for (int i = 0; i < trace.length; i++) {
            Due.eq("43 trace " + i, x.trace(i), trace[i]);
        }
        Due.eq("43 no more", x.trace(trace.length), -3);
        Due.eq("43 none before", x.trace(-1), -3);
    }

    private static HiredClaque shelved(int person) {
        HiredClaque x = six();
        x.shelf(0, 0, person);
        return x;
    }

    private static void guest() {
        HiredClaque x = shelved(0);
        actIs(x, 0, 0, -7, -7, 10);
        actIs(x, 0, 1, -7, -11, 11, 10);
        actIs(x, 0, 2, -7, -2, 12);
        actIs(x, 0, 3, -7, -81, 13, 11, 10);
        actIs(x, 0, 0, -15, -15, 10);
    }

    private static void wife() {
        HiredClaque x = shelved(1);
        actIs(x, 0, 0, 4, -3, 10);
        actIs(x, 0, 1, 4, -10, 20, 11, 10);
        actIs(x, 0, 2, 4, 1, 12);
        actIs(x, 0, 3, 4, -84, 13, 20, 11, 10);
    }

    private static void hand() {
        HiredClaque x = shelved(2);
        actIs(x, 0, 0, 15, 0, 30, 10);
        actIs(x, 0, 1, 15, 5, 11, 30, 10);
        actIs(x, 0, 2, 15, 5, 12);
        actIs(x, 0, 3, 15, 95, 31, 13, 11, 30, 10, 12);
        x.mind(2, 2, 3);
        actIs(x, 0, 3, 15, 87, 31, 13, 11, 30, 10, 12);
    }

    private static void cook() {
        HiredClaque x = shelved(3);
        actIs(x, 0, 0, 4, -51, 51, 10);
        actIs(x, 0, 1, 4, -102, 20, 11, 51, 10);
        actIs(x, 0, 2, 4, -1, 50, 12);
        actIs(x, 0, 3, 4, -102 ^ 90, 13, 20, 11, 51, 10);
    }

    private static void chief() {
        HiredClaque x = shelved(4);
        actIs(x, 0, 0, 15, 14, 40, 30, 10);
        actIs(x, 0, 1, 15, 57, 41, 11, 40, 30, 10, 40, 30, 10);
        actIs(x, 0, 2, 15, 3, 12);
        actIs(x, 0, 3, 15, 99, 31, 13, 41, 11, 40, 30, 10, 40, 30, 10, 12);
        x.mind(4, 4, 5);
        actIs(x, 0, 3, 15, (33 + 24 ^ 90) - 4, 31, 13, 41, 11, 40, 30, 10, 40, 30, 10, 12);
    }

    private static void rival() {
        HiredClaque x = shelved(5);
        actIs(x, 0, 0, 2, -33, 10);
        actIs(x, 0, 1, 2, -59, 11, 10);
        actIs(x, 0, 2, 9, 4 ^ -30, 61, 12, 10);
        actIs(x, 0, 2, 20, 10 ^ -30, 61, 12, 10);
        actIs(x, 0, 3, 2, 5 - (-59 ^ 90), 60, 13, 11, 10);
    }

    private static void parted() {
        HiredClaque x = six();
        for (int p = 0; p < 6; p++) {
            x.mind(p, p, p);
        }
        x.shelf(0, 0, 0);
        actIs(x, 0, 2, 5, -15, 12);
        x.shelf(0, 0, 2);
        actIs(x, 0, 3, 15, -15, 31, 13, 11, 30, 10, 12);
        actIs(x, 0, 0, 15, 0, 30, 10);
        x.shelf(0, 0, 3);
        actIs(x, 0, 2, 4, -15, 50, 12);
        x.shelf(0, 0, 4);
        actIs(x, 0, 3, 4, -15, 31, 13, 41, 11, 40, 30, 10, 40, 30, 10, 12);
        x.shelf(0, 0, 5);
        actIs(x, 0, 2, 4, -15, 61, 12);
        actIs(x, 0, 1, 35, 5, 11, 10);
    }

    private static void wraps() {
        HiredClaque x = six();
        x.mind(1, 0, 0);
        x.shelf(0, 0, 1);
        actIs(x, 0, 2, Integer.MIN_VALUE, Integer.MIN_VALUE, 12);
        actIs(x, 0, 0, Integer.MIN_VALUE, Integer.MAX_VALUE - 6, 10);
        actIs(x, 0, 1, Integer.MAX_VALUE, -16, 11, 10);
        x.shelf(0, 0, 3);
        actIs(x, 0, 2, Integer.MAX_VALUE, (Integer.MIN_VALUE + 7) / 5 - 3, 50, 12);
    }

    private static void noAct() {
        HiredClaque x = shelved(0);
        x.sheet(0, 0, 3);
        x.shelf(1, 1, 0);
        int[][] none = {{4, 0}, {-1, 0}, {0, 4}, {0, -1}, {2, 0}, {1, 0}};
        for (int[] n : none) {
            actIs(x, 0, 1, -7, -11, 11, 10);
            actIs(x, n[0], n[1], 5, 0);
        }
    }
}
