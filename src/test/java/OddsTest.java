/** Promises 30 and 31: ODDS and HOPE as parts of fractions. */
public final class OddsTest {
    public static void main(String[] args) {
        odds();
        oddsAtTheEdges();
        oddsRefused();
        hope();
        Due.end();
    }

    private static void oddsAre(int wrong, int n, int k, long above, long below) {
        HiredClaque x = new HiredClaque();
        x.set(3, wrong);
        Due.eq("30 above " + wrong + " " + n + " " + k, x.odds(n, k, 0), above);
        Due.eq("30 below " + wrong + " " + n + " " + k, x.odds(n, k, 1), below);
    }

    private static void odds() {
        oddsAre(20, 2, 0, 16, 25);
        oddsAre(20, 2, 1, 8, 25);
        oddsAre(20, 2, 2, 1, 25);
        oddsAre(20, 3, 1, 48, 125);
        oddsAre(50, 8, 4, 35, 128);
        oddsAre(50, 8, 3, 7, 32);
        oddsAre(1, 1, 1, 1, 100);
        oddsAre(37, 2, 1, 2331, 5000);
    }

    private static void oddsAtTheEdges() {
        oddsAre(20, 0, 0, 1, 1);
        oddsAre(0, 0, 0, 1, 1);
        oddsAre(0, 8, 0, 1, 1);
        oddsAre(0, 8, 1, 0, 1);
        oddsAre(0, 8, 8, 0, 1);
        oddsAre(99, 8, 0, 1, 10000000000000000L);
        oddsAre(99, 8, 8, 9227446944279201L, 10000000000000000L);
        oddsAre(20, 8, 8, 1, 390625);
    }

    private static void oddsRefused() {
        HiredClaque x = new HiredClaque();
        Due.eq("30 n 9", x.odds(9, 0, 0), -1);
        Due.eq("30 n -1", x.odds(-1, 0, 0), -1);
        Due.eq("30 n -1, k -1", x.odds(-1, -1, 0), -1);
        Due.eq("30 k above n", x.odds(3, 4, 0), -1);
        Due.eq("30 k -1", x.odds(3, -1, 0), -1);
        Due.eq("30 part 2", x.odds(3, 1, 2), -1);
        Due.eq("30 part -1", x.odds(3, 1, -1), -1);
    }

    private static void hopeIs(int wrong, int n, long above, long below) {
        HiredClaque x = new HiredClaque();
        x.set(3, wrong);
        Due.eq("31 above " + wrong + " " + n, x.hope(n, 0), above);
        Due.eq("31 below " + wrong + " " + n, x.hope(n, 1), below);
    }

    private static void hope() {
        hopeIs(20, 5, 1, 1);
        hopeIs(20, 7, 7, 5);
        hopeIs(20, 0, 0, 1);
        hopeIs(0, 99, 0, 1);
        hopeIs(99, 99, 9801, 100);
        hopeIs(50, 1, 1, 2);
        hopeIs(75, 2, 3, 2);
        HiredClaque x = new HiredClaque();
        Due.eq("31 n 100", x.hope(100, 0), -1);
        Due.eq("31 n -1", x.hope(-1, 0), -1);
        Due.eq("31 part 2", x.hope(1, 2), -1);
        Due.eq("31 part -1", x.hope(1, -1), -1);
    }
}
