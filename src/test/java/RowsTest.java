/** Promises 32 to 35: ROWS and THE READER. */
public final class RowsTest {
    public static void main(String[] args) {
        prove();
        refused();
        alter();
        judge();
        judgeLater();
        Due.end();
    }

    /** One that claps from the first minute on, one that follows it, and one that never does. */
    private static HiredClaque three() {
        HiredClaque x = new HiredClaque();
        x.person(0, 10, 0, 0);
        x.person(0, 20, 1, 0);
        x.person(0, 97, 9, 1);
        x.set(2, 0);
        return x;
    }

    private static void rowsAre(HiredClaque x, int[][] want) {
        Due.eq("44 rows", x.many(4), want.length);
        for (int i = 0; i < want.length; i++) {
            for (int what = 0; what < 3; what++) {
                Due.eq("33 row " + i + ", " + what, x.row(i, what), want[i][what]);
            }
        }
    }

    private static void prove() {
        HiredClaque x = three();
        Due.eq("33 none yet", x.row(0, 0), -9);
        Due.eq("32 of the second", x.prove(1, 4), 4);
        rowsAre(x, new int[][] {{20, 0, 1}, {21, 1, 3}, {22, 1, 3}, {23, 1, 3}});
        Due.eq("32 of the third", x.prove(2, 3), 3);
        rowsAre(x, new int[][] {{97, 0, 1}, {98, 0, 3}, {99, 0, 3}});
        Due.eq("33 the fourth is gone", x.row(3, 0), -9);
        Due.eq("32 one row", x.prove(1, 1), 1);
        rowsAre(x, new int[][] {{20, 0, 1}});
        Due.eq("32 ten", x.prove(0, 10), 10);
        Due.eq("33 the tenth", x.row(9, 0), 18);
        Due.eq("33 an eleventh", x.row(10, 0), -9);
        Due.eq("32 nothing has passed", x.state(0), 0);
    }

    private static void refused() {
        HiredClaque x = three();
        x.prove(0, 2);
        Due.eq("32 n 0", x.prove(0, 0), -1);
        Due.eq("32 n 11", x.prove(0, 11), -1);
        Due.eq("32 one 3", x.prove(3, 1), -1);
        Due.eq("32 one -1", x.prove(-1, 1), -1);
        Due.eq("32 rows stay", x.many(4), 2);
        Due.eq("33 row -1", x.row(-1, 0), -9);
        Due.eq("33 row 2", x.row(2, 0), -9);
        Due.eq("33 what 3", x.row(0, 3), -9);
        Due.eq("33 what -1", x.row(1, -1), -9);
        Due.eq("34 row -1", x.alterRow(-1, 2, 0), -9);
        Due.eq("34 row 2", x.alterRow(2, 0, 0), -9);
        Due.eq("34 what 3", x.alterRow(0, 3, 0), -9);
        Due.eq("34 what -1", x.alterRow(1, -1, 0), -9);
        Due.eq("35 one 3", x.judge(3), -1);
        Due.eq("35 one -1", x.judge(-1), -1);
        Due.eq("35 all is right", x.judge(0), 0);
    }

    private static void alter() {
        HiredClaque x = three();
        x.prove(1, 3);
        Due.eq("34 pride", x.alterRow(1, 0, Integer.MIN_VALUE), 21);
        Due.eq("34 again", x.alterRow(1, 0, 21), Integer.MIN_VALUE);
        Due.eq("34 claps", x.alterRow(0, 1, 7), 0);
        Due.eq("34 set", x.alterRow(2, 2, -5), 3);
        rowsAre(x, new int[][] {{20, 7, 1}, {21, 1, 3}, {22, 1, -5}});
    }

    private static void judge() {
        HiredClaque x = three();
        Due.eq("35 no rows", x.judge(2), 0);
        x.prove(1, 4);
        Due.eq("35 right", x.judge(1), 0);
        Due.eq("35 another one's", x.judge(0), 1);
        for (int what = 0; what < 3; what++) {
            int was = x.alterRow(3, what, 77);
            Due.eq("35 the last is wrong in " + what, x.judge(1), 4);
            x.alterRow(3, what, was);
            Due.eq("35 right again", x.judge(1), 0);
        }
        x.alterRow(2, 0, 0);
        x.alterRow(1, 2, 0);
        Due.eq("35 the first of several", x.judge(1), 2);
        x.alterRow(0, 1, 1);
        Due.eq("35 the first row", x.judge(1), 1);
    }

    private static void judgeLater() {
        HiredClaque x = three();
        x.prove(1, 4);
        x.minutes(1);
        Due.eq("35 from how it is now", x.judge(1), 1);
        x.prove(0, 2);
        x.keep();
        x.person(0, 0, 0, 7);
        Due.eq("35 another joins the set", x.judge(0), 1);
        x.again();
        Due.eq("46 rows stay", x.judge(0), 0);
        Due.eq("46 rows stay", x.many(4), 2);
    }
}
