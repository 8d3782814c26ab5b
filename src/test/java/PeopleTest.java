/** Promises 1 and 4 to 13: a new object, LAWS, PEOPLE and ROOMS as they are now. */
public final class PeopleTest {
    public static void main(String[] args) {
        newObject();
        laws();
        comingIn();
        ofOne();
        loud();
        needs();
        cues();
        hears();
        hearsThroughWalls();
        minding();
        pride();
        moving();
        clapping();
        rooms();
        Due.end();
    }

    private static void newObject() {
        HiredClaque x = new HiredClaque();
        for (int what = 0; what <= 6; what++) {
            Due.eq("1 many " + what, x.many(what), 0);
        }
        Due.eq("1 again", x.again(), -3);
        Due.eq("1 minute", x.state(0), 0);
        Due.eq("1 sheet", x.item(0, 0, 0), -11);
        Due.eq("1 shelf", x.taken(0, 0), -11);
        Due.eq("1 of", x.of(0, 0), -1);
        Due.eq("1 z", x.seed(5), 1);
    }

    private static void laws() {
        HiredClaque x = new HiredClaque();
        int[] first = {2, 3, 1, 20};
        int[] least = {0, 1, 0, 0};
        int[] most = {9, 9, 9, 99};
        for (int law = 0; law < 4; law++) {
            Due.eq("5 first " + law, x.lawOf(law), first[law]);
            Due.eq("4 below " + law, x.set(law, least[law] - 1), -1);
            Due.eq("4 above " + law, x.set(law, most[law] + 1), -1);
            Due.eq("4 least " + law, x.set(law, least[law]), first[law]);
            Due.eq("4 most " + law, x.set(law, most[law]), least[law]);
            Due.eq("5 then " + law, x.lawOf(law), most[law]);
        }
        Due.eq("4 law -1", x.set(-1, 1), -1);
        Due.eq("4 law 4", x.set(4, 1), -1);
        Due.eq("5 law -1", x.lawOf(-1), -1);
        Due.eq("5 law 4", x.lawOf(4), -1);
    }

    private static void comingIn() {
        HiredClaque x = new HiredClaque();
        int[][] bad = {{-1, 0, 0, 0}, {6, 0, 0, 0}, {0, -1, 0, 0}, {0, 100, 0, 0},
            {0, 0, -1, 0}, {0, 0, 10, 0}, {0, 0, 0, -1}, {0, 0, 0, 8}};
        for (int[] b : bad) {
            Due.eq("6 bad", x.person(b[0], b[1], b[2], b[3]), -1);
        }
        Due.eq("6 none of them came", x.many(0), 0);
        for (int i = 0; i < 8; i++) {
            Due.eq("6 number", x.person(i % 6, 99, 9, 7), i);
        }
        Due.eq("6 full", x.person(0, 0, 0, 0), -2);
        Due.eq("6 bad before full", x.person(6, 0, 0, 0), -1);
        Due.eq("6 bad before full", x.person(0, 100, 0, 0), -1);
        Due.eq("6 still", x.many(0), 8);
        Due.eq("6 nobody claps", x.state(1), 0);
    }

    private static void ofOne() {
        HiredClaque x = new HiredClaque();
        x.person(0, 0, 0, 0);
        x.person(4, 71, 8, 6);
        x.clap(1, 1);
        int[] want = {4, 71, 8, 6, 1};
        for (int what = 0; what < 5; what++) {
            Due.eq("7 of 1, " + what, x.of(1, what), want[what]);
            Due.eq("7 of 0, " + what, x.of(0, what), 0);
        }
        Due.eq("7 what 5", x.of(0, 5), -1);
        Due.eq("7 what -1", x.of(0, -1), -1);
        Due.eq("7 one 2", x.of(2, 0), -1);
        Due.eq("7 one -1", x.of(-1, 0), -1);
        Due.eq("8 what 3", x.does(0, 3), -1);
        Due.eq("8 what -1", x.does(0, -1), -1);
        Due.eq("8 one 2", x.does(2, 0), -1);
        Due.eq("8 one -1", x.does(-1, 0), -1);
    }

    private static void loud() {
        HiredClaque x = new HiredClaque();
        int[] ofEar8 = {1003, 1004, 1005, 1008, 1012, 997};
        int[] ofEar2 = {1001, 1002, 1003, 1004, 1010, 999};
        int[] ofEar9 = {1004, 1005, 1006, 1010, 1013, 996};
        for (int kind = 0; kind < 6; kind++) {
            x.person(kind, 79, 8, kind);
            Due.eq("8 loud, ear 8, " + kind, x.does(kind, 0), ofEar8[kind]);
            x.mind(kind, kind, 2);
            Due.eq("8 loud, ear 2, " + kind, x.does(kind, 0), ofEar2[kind]);
            x.mind(kind, kind, 9);
            Due.eq("8 loud, ear 9, " + kind, x.does(kind, 0), ofEar9[kind]);
        }
        x.set(0, 0);
        Due.eq("8 loud, pay 0", x.does(2, 0), 1004);
        Due.eq("8 loud, pay 0", x.does(4, 0), 1011);
        x.set(0, 9);
        Due.eq("8 loud, pay 9", x.does(2, 0), 1013);
        Due.eq("8 loud, pay 9", x.does(4, 0), 1020);
        Due.eq("8 loud, pay 9, guest", x.does(0, 0), 1004);
    }

    private static void needs() {
        HiredClaque x = new HiredClaque();
        x.minutes(1);
        int[] ofEar7Pride59 = {1007, 1002, 1007, 1004, 1003, 1010};
        int[] ofEar1Pride99 = {1001, 992, 1001, 994, 1000, 1004};
        for (int kind = 0; kind < 6; kind++) {
            x.person(kind, 59, 7, 0);
            Due.eq("8 needs, ear 7, " + kind, x.does(kind, 1), ofEar7Pride59[kind]);
            x.pride(kind, 99);
            x.mind(kind, kind, 1);
            Due.eq("8 needs, ear 1, " + kind, x.does(kind, 1), ofEar1Pride99[kind]);
        }
    }

    private static void cues() {
        HiredClaque x = new HiredClaque();
        x.person(2, 0, 9, 0);
        x.person(4, 0, 9, 0);
        x.set(1, 4);
        for (int minute = 0; minute < 9; minute++) {
            boolean cued = minute == 0 || minute == 4 || minute == 8;
            Due.eq("8 hand needs in " + minute, x.does(0, 1), cued ? 1000 : 1009);
            Due.eq("8 chief needs in " + minute, x.does(1, 1), cued ? 1000 : 1004);
            x.minutes(1);
        }
    }

    private static void hears() {
        HiredClaque x = new HiredClaque();
        x.person(0, 0, 9, 3);
        x.person(1, 0, 6, 3);
        x.person(5, 0, 9, 3);
        Due.eq("8 quiet", x.does(0, 2), 1000);
        x.clap(0, 1);
        Due.eq("8 not itself", x.does(0, 2), 1000);
        Due.eq("8 also if it doesn't clap", x.does(1, 2), 1004);
        x.clap(1, 1);
        Due.eq("8 the others", x.does(0, 2), 1004);
        Due.eq("8 all others", x.does(2, 2), 1008);
        x.clap(2, 1);
        Due.eq("8 hissed", x.does(0, 2), 1000);
        x.clap(1, 0);
        Due.eq("8 below 0", x.does(0, 2), 996);
    }

    private static void hearsThroughWalls() {
        HiredClaque x = new HiredClaque();
        x.person(0, 0, 0, 0);
        x.person(0, 0, 6, 7);
        x.person(0, 0, 6, 1);
        x.person(0, 0, 9, 2);
        x.person(0, 0, 9, 6);
        for (int p = 1; p < 5; p++) {
            x.clap(p, 1);
        }
        Due.eq("8 both sides are parted together", x.does(0, 2), 1003);
        x.set(2, 0);
        Due.eq("8 no wall", x.does(0, 2), 1006);
        x.set(2, 3);
        Due.eq("8 wall 3", x.does(0, 2), 1001);
        x.set(2, 2);
        x.move(1, 0);
        Due.eq("8 the room itself is not parted", x.does(0, 2), 1004);
        x.set(2, 9);
        x.move(1, 4);
        Due.eq("8 wall 9", x.does(0, 2), 1000);
        x.mind(2, 5, 9);
        x.set(2, 2);
        Due.eq("8 cut towards 0", x.does(0, 2), 999);
        x.set(2, 4);
        Due.eq("8 cut towards 0", x.does(0, 2), 1000);
    }

    private static void minding() {
        HiredClaque x = new HiredClaque();
        x.person(2, 44, 1, 5);
        x.clap(0, 1);
        Due.eq("9 mind", x.mind(0, 5, 9), 2);
        Due.eq("9 mind again", x.mind(0, 0, 0), 5);
        int[] want = {0, 44, 0, 5, 1};
        for (int what = 0; what < 5; what++) {
            Due.eq("9 of " + what, x.of(0, what), want[what]);
        }
        int[][] bad = {{1, 0, 0}, {-1, 0, 0}, {0, -1, 1}, {0, 6, 1}, {0, 1, -1}, {0, 1, 10}};
        for (int[] b : bad) {
            Due.eq("9 bad", x.mind(b[0], b[1], b[2]), -1);
        }
        Due.eq("9 unchanged", x.of(0, 0), 0);
        Due.eq("9 unchanged", x.of(0, 2), 0);
    }

    private static void pride() {
        HiredClaque x = new HiredClaque();
        x.person(0, 17, 3, 0);
        Due.eq("10 to 99", x.pride(0, 99), 17);
        Due.eq("10 to 0", x.pride(0, 0), 99);
        Due.eq("10 above", x.pride(0, 100), -1);
        Due.eq("10 below", x.pride(0, -1), -1);
        Due.eq("10 one", x.pride(1, 5), -1);
        Due.eq("10 one", x.pride(-1, 5), -1);
        Due.eq("10 stays", x.of(0, 1), 0);
    }

    private static void moving() {
        HiredClaque x = new HiredClaque();
        x.person(0, 17, 3, 4);
        Due.eq("11 to 7", x.move(0, 7), 4);
        Due.eq("11 to 0", x.move(0, 0), 7);
        Due.eq("11 room 8", x.move(0, 8), -1);
        Due.eq("11 room -1", x.move(0, -1), -1);
        Due.eq("11 one", x.move(1, 0), -1);
        Due.eq("11 one", x.move(-1, 0), -1);
        Due.eq("11 stays", x.of(0, 3), 0);
    }

    private static void clapping() {
        HiredClaque x = new HiredClaque();
        x.person(0, 0, 0, 0);
        x.person(0, 0, 0, 0);
        Due.eq("12 on", x.clap(1, 1), 0);
        Due.eq("12 on again", x.clap(1, 1), 1);
        Due.eq("12 set", x.state(1), 2);
        Due.eq("12 other", x.clap(0, 0), 0);
        Due.eq("12 off", x.clap(1, 0), 1);
        Due.eq("12 off again", x.clap(1, 0), 0);
        Due.eq("12 v 2", x.clap(1, 2), -1);
        Due.eq("12 v -1", x.clap(1, -1), -1);
        Due.eq("12 one", x.clap(2, 1), -1);
        Due.eq("12 one", x.clap(-1, 1), -1);
        Due.eq("12 stays", x.state(1), 0);
    }

    private static void rooms() {
        HiredClaque x = new HiredClaque();
        x.person(0, 0, 0, 7);
        x.person(0, 0, 0, 0);
        x.person(0, 0, 0, 7);
        x.clap(1, 1);
        x.clap(2, 1);
        Due.eq("13 in 7", x.room(7, 0), 5);
        Due.eq("13 clap in 7", x.room(7, 1), 4);
        Due.eq("13 in 0", x.room(0, 0), 2);
        Due.eq("13 clap in 0", x.room(0, 1), 2);
        Due.eq("13 empty", x.room(3, 0), 0);
        Due.eq("13 room 8", x.room(8, 0), -1);
        Due.eq("13 room -1", x.room(-1, 0), -1);
        Due.eq("13 what 2", x.room(0, 2), -1);
        Due.eq("13 what -1", x.room(0, -1), -1);
    }
}
