/** "What it is" and promise 1: an object is used for 512 calls, and each is for itself. */
public final class ObjectsTest {
    private static final int CALLS_MOST = 512;

    public static void main(String[] args) {
        newAfterAnother();
        shelvesHoldNothing();
        eachForItself();
        longestHouse();
        mostSheets();
        mostActs();
        mostTexts();
        Due.end();
    }

    /** Some of everything that an object holds. */
    private static HiredClaque used() {
        HiredClaque x = Due.told("chief in 3 pride 70 ear 8 claps; rival in 2; pay 9; cue 9; wall 9; wrong 99;");
        x.minutes(7);
        x.seed(4711);
        for (int s = 0; s < 4; s++) {
            x.sheet(s, s, 10 + s);
            x.put(s, 9, 5);
        }
        x.shelf(0, 0, 0);
        x.shelf(1, 1, 3);
        x.act(0, 3, 8);
        x.prove(1, 10);
        x.keep();
        Due.tell(x, "pay 3");
        return x;
    }

    private static void newAfterAnother() {
        used();
        HiredClaque x = new HiredClaque();
        for (int what = 0; what <= 6; what++) {
            Due.eq("1 many " + what, x.many(what), 0);
        }
        for (int what = 0; what <= 5; what++) {
            Due.eq("1 state " + what, x.state(what), what == 3 ? 1000 : 0);
        }
        int[] laws = {2, 3, 1, 20};
        for (int i = 0; i < 4; i++) {
            Due.eq("1 law " + i, x.lawOf(i), laws[i]);
            Due.eq("1 sheet " + i, x.put(i, 0, 1), -11);
            Due.eq("1 shelf " + i, x.taken(i, 0), -11);
            Due.eq("1 no act", x.act(i, 0, 5), 0);
        }
        Due.eq("1 no trace", x.trace(0), -3);
        Due.eq("1 no row", x.row(0, 0), -9);
        Due.eq("1 nothing to judge", x.judge(0), -1);
        Due.eq("1 z", x.seed(0), 1);
        Due.eq("1 nothing is kept", x.again(), -3);
        Due.eq("1 an empty tape", x.opera(), 0);
    }

    /** Nothing at first, also when all eight have come whose number they might hold. */
    private static void shelvesHoldNothing() {
        HiredClaque x = Due.told("guest in 0;".repeat(8));
        for (int s = 0; s < 4; s++) {
            for (int as : new int[] {0, 10, 11, 12, 13}) {
                Due.eq("41 shelf " + s + " as " + as, x.taken(s, as), -11);
            }
            Due.eq("42 nothing on shelf " + s, x.act(s, 0, 5), 0);
            Due.eq("44 no body", x.many(6), 0);
            Due.eq("39 sheet " + s, x.item(s, 0, 0), -11);
        }
    }

    private static void eachForItself() {
        HiredClaque one = used();
        HiredClaque other = new HiredClaque();
        other.person(0, 1, 2, 3);
        other.keep();
        other.sheet(0, 3, 1);
        other.shelf(0, 0, 0);
        other.act(0, 0, 1);
        other.prove(0, 1);
        other.seed(12);
        other.set(0, 0);
        other.minutes(60);
        other.opera();
        java.util.List<String> told = Snapshot.of(one);
        java.util.List<String> due = Snapshot.of(used());
        for (int i = 0; i < due.size(); i++) {
            Due.eq("1 " + told.get(i) + ", due is " + due.get(i), told.get(i).equals(due.get(i)) ? 0 : 1, 0);
        }
    }

    /** The greatest MINUTE that 512 calls come to, and a hand's cue there. */
    private static void longestHouse() {
        HiredClaque x = Due.told("hand in 0 ear 9; cue 7;");
        int minute = 0;
        // five calls told it, and five more are asked below
        for (int calls = 5; calls <= CALLS_MOST - 7; calls += 2) {
            int n = 60 - calls % 3;
            Due.eq("14 claps in " + minute, x.minutes(n), (minute + n - 1) % 7 == 0 ? 1 : 0);
            minute += n;
            Due.eq("8 needs in " + minute, x.does(0, 1), minute % 7 == 0 ? 1000 : 1009);
        }
        Due.eq("18 minute", x.state(0), minute);
        Due.eq("20 joins", x.joins(0), (minute - 1) % 7 == 0 ? 0 : (7 - minute % 7) % 7 + 1);
        Due.eq("22 hush", x.hush(), (minute - 1) % 7 == 0 ? 1 : 0);
        Due.eq("19 clapping", x.clapping(60), (minute + 59) % 7 == 0 ? 1 : 0);
        Due.eq("15 z", x.seed(1), 1);
    }

    private static void mostSheets() {
        HiredClaque x = new HiredClaque();
        for (int i = 0; i < CALLS_MOST - 2; i++) {
            Due.eq("37 sheet " + i, x.sheet(i % 4, i % 3 + 1, 40), 1);
        }
        Due.eq("38 the last", x.put(1, 39, 7), 1);
        Due.eq("39 the last", x.item(1, (CALLS_MOST - 3) % 3 + 1, 39), 7);
    }

    private static void mostActs() {
        HiredClaque x = new HiredClaque();
        x.person(4, 0, 9, 0);
        x.shelf(3, 0, 0);
        int act = 0;
        for (int i = 0; i < CALLS_MOST - 3; i++) {
            act = x.act(3, 3, 15);
        }
        Due.eq("42 the last", act, -(15 ^ 1) * 2 + 9 - (9 ^ 1) ^ 90);
    }

    private static void mostTexts() {
        HiredClaque x = new HiredClaque();
        long pay7 = ' ' | 'p' << 8 | 'a' << 16 | 'y' << 24 | (long) ' ' << 32 | (long) '7' << 40 | (long) ';' << 48;
        for (int i = 0; i < CALLS_MOST / 2 - 1; i++) {
            Due.eq("2 from the first byte on", x.feed(pay7, 7), 7);
            Due.eq("3 nobody", x.opera(), 0);
        }
        Due.eq("3 pay", x.lawOf(0), 7);
    }
}
