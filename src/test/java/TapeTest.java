/** Promises 2 and 3: THE TAPE and the TEXT. */
public final class TapeTest {
    public static void main(String[] args) {
        feeding();
        fullTape();
        wholeText();
        asAtFirst();
        nobodyClapsFromBefore();
        whatStays();
        rightTexts();
        faults();
        numbers();
        theNinth();
        refusedTextChangesNothing();
        Due.end();
    }

    private static void feeding() {
        HiredClaque x = new HiredClaque();
        Due.eq("2 n 0", x.feed(0, 0), -1);
        Due.eq("2 n 9", x.feed(0, 9), -1);
        Due.eq("2 n -1", x.feed(0, -1), -1);
        Due.eq("2 nothing came", x.many(5), 0);
        // "pay 7;" and two more bytes that n leaves out
        long pay7 = 'p' | 'a' << 8 | 'y' << 16 | (long) ' ' << 24 | (long) '7' << 32 | (long) ';' << 40 | -1L << 48;
        Due.eq("2 lowest first", x.feed(pay7, 6), 6);
        Due.eq("2 how many", x.many(5), 6);
        Due.eq("3 read", x.opera(), 0);
        Due.eq("3 pay", x.lawOf(0), 7);
        Due.eq("3 used up", x.many(5), 0);
        Due.eq("2 the highest byte counts", x.feed((long) 'A' << 56 | 0x20202020202020L, 8), 8);
        Due.eq("3 fault at the highest", x.opera(), -107);
        Due.eq("2 a byte above 127", x.feed(0xff, 1), 1);
        Due.eq("3 it can't stand", x.opera(), -100);
    }

    private static void fullTape() {
        HiredClaque x = new HiredClaque();
        for (int i = 1; i <= 24; i++) {
            Due.eq("2 fill", x.feed(0x2020202020202020L, 8), 8 * i);
        }
        Due.eq("2 to 199", x.feed(0x2020202020202020L, 7), 199);
        Due.eq("2 201", x.feed(0x2020L, 2), -2);
        Due.eq("2 bad before full", x.feed(0x2020L, 9), -1);
        Due.eq("2 200", x.feed(0x20L, 1), 200);
        Due.eq("2 full", x.feed(0x20L, 1), -2);
        Due.eq("2 full stays", x.many(5), 200);
        Due.eq("3 blanks alone", x.opera(), 0);
        Due.eq("2 room again", x.feed(0x20L, 1), 1);
    }

    private static void wholeText() {
        HiredClaque x = Due.told("wall 0; guest in 7 pride 12 ear 4 claps; wife in 0; hand in 1 pride 99;"
            + "cook in 2 ear 9; chief in 3 claps; pay 9; rival in 4 pride 1 claps; cue 9; wrong 99;");
        Due.eq("3 people", x.many(0), 6);
        int[][] want = {{0, 12, 4, 7, 1}, {1, 0, 3, 0, 0}, {2, 99, 3, 1, 0},
            {3, 0, 9, 2, 0}, {4, 0, 3, 3, 1}, {5, 1, 3, 4, 1}};
        for (int p = 0; p < 6; p++) {
            for (int what = 0; what < 5; what++) {
                Due.eq("3 of " + p + ", " + what, x.of(p, what), want[p][what]);
            }
        }
        int[] laws = {9, 9, 0, 99};
        for (int law = 0; law < 4; law++) {
            Due.eq("3 law " + law, x.lawOf(law), laws[law]);
        }
    }

    private static void asAtFirst() {
        HiredClaque x = Due.told("guest in 7 claps; pay 9; cue 9; wall 9; wrong 9;");
        x.minutes(5);
        x.sheet(0, 1, 3);
        x.prove(0, 3);
        Due.eq("3 nothing told", x.opera(), 0);
        Due.eq("3 nobody", x.many(0), 0);
        Due.eq("3 nobody claps", x.state(1), 0);
        Due.eq("3 minute", x.state(0), 0);
        Due.eq("3 no rows", x.many(4), 0);
        Due.eq("3 no rows", x.row(0, 0), -9);
        int[] laws = {2, 3, 1, 20};
        for (int law = 0; law < 4; law++) {
            Due.eq("3 law " + law, x.lawOf(law), laws[law]);
        }
        Due.eq("3 one comes in, and doesn't clap", x.person(0, 1, 2, 3), 0);
        Due.eq("3 state", x.state(1), 0);
    }

    private static void nobodyClapsFromBefore() {
        HiredClaque x = Due.told("guest in 0 claps; guest in 0 ear 0 claps; guest in 0 claps;");
        x.clapping(0);
        Due.tell(x, "guest in 0;");
        Due.eq("3 opera", x.opera(), 1);
        Due.eq("3 nobody claps", x.state(1), 0);
    }

    private static void whatStays() {
        HiredClaque x = Due.told("guest in 0 ear 5; guest in 1;");
        x.seed(77);
        x.sheet(1, 2, 4);
        x.shelf(0, 0, 1);
        x.shelf(1, 1, 1);
        x.act(0, 1, 5);
        x.keep();
        Due.tell(x, "wife in 3;");
        Due.eq("3 opera", x.opera(), 1);
        Due.eq("3 z stays", x.seed(78), 77);
        Due.eq("3 sheets stay", x.item(1, 2, 3), 0);
        Due.eq("3 shelves stay", x.taken(1, 12), 4);
        Due.eq("3 a shelf's one is gone", x.taken(0, 0), -11);
        Due.eq("3 the trace stays", x.trace(0), 11);
        Due.eq("3 what is kept stays", x.again(), 2);
        Due.eq("3 the shelf's one is there again", x.taken(0, 0), 1);
    }

    private static void rightTexts() {
        Due.opera("", 0);
        Due.opera("   ", 0);
        Due.opera("guest in 0;", 1);
        Due.opera("  guest   in   0   ;   ", 1);
        Due.opera("guest in0pride5ear6claps;wife in 1;", 2);
        Due.opera("guest in 0 pride 0 ear 0 claps;", 1);
        Due.opera("guest in 0 claps;", 1);
        Due.opera("guest in 007 pride 099 ear 009;", 1);
        Due.opera("pay 0;pay 9;cue 1;cue 9;wall 0;wall 9;wrong 0;wrong 99;", 0);
        HiredClaque x = Due.told("pay 3;pay 4;");
        Due.eq("3 the latest law stands", x.lawOf(0), 4);
    }

    private static void faults() {
        Due.opera("gues in 0;", -100);
        Due.opera("guests in 0;", -100);
        Due.opera("guestin 0;", -100);
        Due.opera("Guest in 0;", -100);
        Due.opera(";", -100);
        Due.opera("7", -100);
        Due.opera("  claps", -102);
        Due.opera("guest", -105);
        Due.opera("guest  ", -107);
        Due.opera("guest 0;", -106);
        Due.opera("guest on 0;", -106);
        Due.opera("guest in", -108);
        Due.opera("guest in ear 3;", -109);
        Due.opera("guest in 0", -110);
        Due.opera("guest in 0 ", -111);
        Due.opera("guest in 0 1;", -111);
        Due.opera("guest in 0,", -110);
        Due.opera("guest in 0 ear 3 pride 4;", -117);
        Due.opera("guest in 0 claps ear 3;", -117);
        Due.opera("guest in 0 pride ear 3;", -117);
        Due.opera("guest in 0 pride", -116);
        Due.opera("guest in 0 ear", -114);
        Due.opera("guest in 0 claps claps;", -117);
        Due.opera("guest in 0 pride 1 pride 1;", -119);
        Due.opera("guest in 0;;", -111);
        Due.opera("guest in 0; pay", -115);
        Due.opera("pay 1", -105);
        Due.opera("pay in 1;", -104);
        Due.opera("pay -1;", -104);
        Due.opera("pay\t1;", -103);
        Due.opera("pay 1 2;", -106);
        Due.opera("guest;", -105);
        Due.opera("guest in;", -108);
        Due.opera("guest in 0 pride;", -116);
        Due.opera("guest in 0 ear;", -114);
        Due.opera("pay;", -103);
        Due.opera("pay 1\n;", -105);
        Due.opera("guest in 0 \u00e9;", -111);
    }

    private static void numbers() {
        Due.opera("guest in 8;", -109);
        Due.opera("guest in 0007;", -109);
        Due.opera("guest in 99999999999;", -109);
        Due.opera("guest in 0 pride 100;", -117);
        Due.opera("guest in 0 pride 0099;", -117);
        Due.opera("guest in 0 ear 10;", -115);
        Due.opera("guest in 9", -109);
        Due.opera("pay 10;", -104);
        Due.opera("cue 0;", -104);
        Due.opera("cue 10;", -104);
        Due.opera("wall 10;", -105);
        Due.opera("wrong 100;", -106);
        Due.opera("wrong 4294967297;", -106);
    }

    private static void theNinth() {
        String eight = "rival in 0;rival in 0;rival in 0;rival in 0;rival in 0;rival in 0;rival in 0;rival in 0;";
        Due.opera(eight, 8);
        Due.opera(eight + " pay 3;", 8);
        Due.opera(eight + " guest", -189);
        Due.opera(eight + " gues", -189);
        Due.opera(eight + "guest in 9;", -188);
    }

    private static void refusedTextChangesNothing() {
        HiredClaque x = Due.told("guest in 7 pride 5 claps; pay 8;");
        x.minutes(2);
        x.prove(0, 2);
        Due.tell(x, "wall 9; wife in 0; hand in");
        Due.eq("3 refused", x.opera(), -126);
        Due.eq("3 the tape is used up", x.many(5), 0);
        Due.eq("3 people", x.many(0), 1);
        Due.eq("3 kind", x.of(0, 0), 0);
        Due.eq("3 pay", x.lawOf(0), 8);
        Due.eq("3 wall", x.lawOf(2), 1);
        Due.eq("3 minute", x.state(0), 2);
        Due.eq("3 rows", x.many(4), 2);
        Due.eq("3 the tape is empty", x.opera(), 0);
    }
}
