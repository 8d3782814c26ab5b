/** Promises 36 to 39: SHEETS, their items, and PRIDE from them. */
public final class SheetsTest {
    public static void main(String[] args) {
        sheets();
        sheetsRefused();
        items();
        itemsRefused();
        minds();
        mindsRefused();
        Due.end();
    }

    private static void sheets() {
        HiredClaque x = new HiredClaque();
        Due.eq("37 longs", x.sheet(0, 3, 40), 1);
        Due.eq("39 the last", x.item(0, 3, 39), 0);
        Due.eq("37 empty", x.sheet(0, 0, 0), 1);
        Due.eq("39 no first", x.item(0, 0, 0), -12);
        Due.eq("37 again", x.sheet(0, 1, 2), 1);
        x.put(0, 1, 5);
        Due.eq("37 anew", x.sheet(0, 1, 2), 1);
        Due.eq("39 all 0", x.item(0, 1, 1), 0);
        Due.eq("37 missing", x.sheet(0, -1, 99), 1);
        Due.eq("39 missing", x.item(0, 1, 1), -11);
        Due.eq("37 missing, n below 0", x.sheet(0, -1, -99), 1);
        Due.eq("37 the last sheet", x.sheet(3, 2, 1), 1);
        Due.eq("39 of the last sheet", x.item(3, 2, 0), 0);
    }

    private static void sheetsRefused() {
        HiredClaque x = new HiredClaque();
        x.sheet(0, 2, 5);
        x.put(0, 4, 9);
        Due.eq("37 sheet 4", x.sheet(4, 0, 1), -1);
        Due.eq("37 sheet -1", x.sheet(-1, 0, 1), -1);
        Due.eq("37 sort 4", x.sheet(0, 4, 1), -1);
        Due.eq("37 sort -2", x.sheet(0, -2, 1), -1);
        Due.eq("37 n 41", x.sheet(0, 0, 41), -1);
        Due.eq("37 n -1", x.sheet(0, 0, -1), -14);
        Due.eq("37 n least", x.sheet(0, 0, Integer.MIN_VALUE), -14);
        Due.eq("37 bad before a size below 0", x.sheet(4, 0, -1), -1);
        Due.eq("37 bad before a size below 0", x.sheet(0, 4, -1), -1);
        Due.eq("37 it stays", x.item(0, 2, 4), 9);
    }

    private static void items() {
        HiredClaque x = new HiredClaque();
        int[] put = {0, 127, 128, 200, 255, 256, 32767, 32768, 65535, -1, Integer.MIN_VALUE, Integer.MAX_VALUE};
        for (int sort = 0; sort < 4; sort++) {
            x.sheet(sort, sort, put.length);
            for (int i = 0; i < put.length; i++) {
                Due.eq("38 put", x.put(sort, i, put[i]), 1);
            }
        }
        for (int i = 0; i < put.length; i++) {
            Due.eq("39 byte " + put[i], x.item(0, 0, i), (byte) put[i]);
            Due.eq("39 short " + put[i], x.item(1, 1, i), (short) put[i]);
            Due.eq("39 int " + put[i], x.item(2, 2, i), put[i]);
            Due.eq("39 long " + put[i], x.item(3, 3, i), put[i]);
        }
    }

    private static void itemsRefused() {
        HiredClaque x = new HiredClaque();
        x.sheet(1, 2, 3);
        Due.eq("38 sheet 4", x.put(4, 0, 1), -1);
        Due.eq("38 sheet -1", x.put(-1, 0, 1), -1);
        Due.eq("38 missing", x.put(0, 0, 1), -11);
        Due.eq("38 place 3", x.put(1, 3, 1), -12);
        Due.eq("38 place -1", x.put(1, -1, 1), -12);
        Due.eq("39 sheet 4", x.item(4, 2, 0), -1);
        Due.eq("39 sheet -1", x.item(-1, 2, 0), -1);
        Due.eq("39 sort 4", x.item(1, 4, 0), -1);
        Due.eq("39 sort -1", x.item(1, -1, 0), -1);
        Due.eq("39 missing", x.item(0, 2, 0), -11);
        Due.eq("39 bad before missing", x.item(0, 4, 0), -1);
        Due.eq("39 another sort", x.item(1, 3, 0), -13);
        Due.eq("39 another sort before outside", x.item(1, 0, 3), -13);
        Due.eq("39 place 3", x.item(1, 2, 3), -12);
        Due.eq("39 place -1", x.item(1, 2, -1), -12);
    }

    /** Four people of PRIDE 50, and a sheet 1 of five bytes. */
    private static HiredClaque four() {
        HiredClaque x = new HiredClaque();
        for (int p = 0; p < 4; p++) {
            x.person(p, 50, 3, p);
        }
        x.sheet(1, 0, 5);
        int[] put = {3, 200, 112, 99, 0};
        for (int i = 0; i < 5; i++) {
            x.put(1, i, put[i]);
        }
        return x;
    }

    private static void pridesAre(HiredClaque x, int... want) {
        for (int p = 0; p < want.length; p++) {
            Due.eq("36 pride of " + p, x.of(p, 1), want[p]);
        }
    }

    private static void minds() {
        HiredClaque x = four();
        Due.eq("36 three", x.minds(1, 0, 0, 3), 3);
        pridesAre(x, 3, 0, 99, 50);
        Due.eq("36 from 2 on", x.minds(1, 3, 2, 2), 2);
        pridesAre(x, 3, 0, 99, 0);
        Due.eq("36 none", x.minds(1, 5, 3, 0), 0);
        Due.eq("36 all", x.minds(1, 1, 0, 4), 4);
        pridesAre(x, 0, 99, 99, 0);
    }

    private static void mindsRefused() {
        HiredClaque x = four();
        x.sheet(2, 1, 5);
        Due.eq("36 sheet 4", x.minds(4, 0, 0, 1), -1);
        Due.eq("36 sheet -1", x.minds(-1, 0, 0, 1), -1);
        Due.eq("36 one 4", x.minds(1, 0, 4, 0), -1);
        Due.eq("36 one -1", x.minds(1, 0, -1, 1), -1);
        Due.eq("36 n 9", x.minds(1, 0, 0, 9), -1);
        Due.eq("36 n -1", x.minds(1, 0, 0, -1), -1);
        Due.eq("36 beyond the last one", x.minds(1, 0, 2, 3), -1);
        Due.eq("36 missing", x.minds(0, 9, 0, 1), -11);
        Due.eq("36 bad before missing", x.minds(0, 0, 2, 3), -1);
        Due.eq("36 another sort", x.minds(2, 9, 0, 1), -13);
        Due.eq("36 place -1", x.minds(1, -1, 0, 0), -12);
        Due.eq("36 place 6", x.minds(1, 6, 0, 0), -12);
        Due.eq("36 not so many", x.minds(1, 5, 0, 1), -12);
        Due.eq("36 not so many", x.minds(1, 3, 0, 3), -12);
        Due.eq("36 far outside", x.minds(1, Integer.MAX_VALUE, 0, 4), -12);
        pridesAre(x, 50, 50, 50, 50);
    }
}
