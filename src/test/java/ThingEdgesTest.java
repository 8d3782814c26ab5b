import java.util.Arrays;

/** Terms 3: ROWS, ACTS, BODIES, THE TRACE, SHEETS and SHELVES, and what is kept; each sentence where it has an edge. */
public final class ThingEdgesTest {
    private static final int GUEST = 0, WIFE = 1, HAND = 2, COOK = 3, CHIEF = 4, RIVAL = 5;
    private static final int COUGHS = 0, LAUGHS = 1, PARTS = 2, RISES = 3;
    private static final int LEAST = Integer.MIN_VALUE, MOST = Integer.MAX_VALUE;

    public static void main(String[] args) {
        rowsOfOneToTen();
        rowsAreTried();
        alteredToAnything();
        judgedByEachItem();
        judgedFromNow();
        mindsAreHeld();
        mindsAtTheEnds();
        sheetsOfEachLength();
        sheetsAnew();
        narrowed();
        takenForItsSortAlone();
        heldOfPeople();
        heldRows();
        oneShelfEach();
        underWhichKind();
        coughsWrap();
        laughsWrap();
        partsWrap();
        risesWrap();
        partedOfEachKind();
        negativeParts();
        traceOfTheLatest();
        longestTrace();
        manyAtTheEnds();
        keptAndAgain();
        keptIsNotWhatIsNow();
        theGoneByOpera();
        Due.end();
    }

    // ---- ROWS

    private static void rowsOfOneToTen() {
        for (int seed = 0; seed < 8; seed++) {
            HiredClaque x = RandomHouse.of(seed);
            int person = seed % 8;
            Due.eq("32 ten", x.prove(person, 10), 10);
            int[][] rows = new int[10][3];
            for (int i = 0; i < 10; i++) {
                for (int what = 0; what < 3; what++) {
                    rows[i][what] = x.row(i, what);
                }
            }
            for (int n = 1; n <= 10; n++) {
                Due.eq("32 " + n, x.prove(person, n), n);
                Due.eq("44 " + n, x.many(4), n);
                Due.eq("33 the last", x.row(n - 1, 2), rows[n - 1][2]);
                Due.eq("33 one more", x.row(n, 0), -9);
                Due.eq("34 one more", x.alterRow(n, 0, 1), -9);
                Due.eq("35 right", x.judge(person), 0);
            }
            for (int i = 0; i < 10; i++) {
                x.minutes(1);
                int[] due = {x.of(person, 1), x.of(person, 4), x.state(1)};
                Due.eq("32 row " + i + " is " + Arrays.toString(rows[i]) + ", due is " + Arrays.toString(due),
                    Arrays.equals(rows[i], due) ? 0 : 1, 0);
            }
        }
    }

    private static void rowsAreTried() {
        HiredClaque x = RandomHouse.of(3);
        int[] before = {x.state(0), x.state(1), x.state(2), x.state(3)};
        x.prove(2, 10);
        x.judge(2);
        for (int what = 0; what < 4; what++) {
            Due.eq("32 nothing changes, " + what, x.state(what), before[what]);
        }
    }

    private static void alteredToAnything() {
        HiredClaque x = RandomHouse.of(4);
        x.prove(0, 2);
        for (int what = 0; what < 3; what++) {
            for (int v : new int[] {LEAST, -9, -1, 0, 100, MOST}) {
                int was = x.row(1, what);
                Due.eq("34 what it was", x.alterRow(1, what, v), was);
                Due.eq("34 what it is", x.row(1, what), v);
            }
        }
        Due.eq("34 the first row stays", x.judge(0), 2);
    }

    private static void judgedByEachItem() {
        HiredClaque x = RandomHouse.of(5);
        x.prove(1, 10);
        for (int i = 9; i >= 0; i--) {
            for (int what = 0; what < 3; what++) {
                int was = x.row(i, what);
                for (int v : new int[] {was - 1, was + 1, ~was, was ^ LEAST}) {
                    x.alterRow(i, what, v);
                    Due.eq("35 row " + i + " is wrong", x.judge(1), i + 1);
                }
                x.alterRow(i, what, was);
                Due.eq("35 right again", x.judge(1), 0);
            }
        }
        for (int i = 9; i >= 0; i--) {
            x.alterRow(i, 2, -1);
            Due.eq("35 the first of several", x.judge(1), i + 1);
        }
    }

    private static void judgedFromNow() {
        HiredClaque x = new HiredClaque();
        x.person(GUEST, 0, 0, 0);
        x.person(GUEST, 0, 9, 0);
        Due.eq("35 no rows", x.judge(0), 0);
        x.prove(0, 3);
        x.move(1, 4);
        Due.eq("35 as quiet there", x.judge(0), 0);
        x.clap(1, 1);
        x.move(1, 1);
        Due.eq("35 it hears more now", x.judge(0), 1);
        x.clap(1, 0);
        Due.eq("35 as it was", x.judge(0), 0);
        x.mind(1, GUEST, 0);
        Due.eq("35 the set is another", x.judge(0), 1);
        x.mind(1, GUEST, 9);
        Due.eq("35 the other's are others", x.judge(1), 1);
    }

    // ---- PRIDE from a SHEET

    private static void mindsAreHeld() {
        int[] bytes = {-128, -1, 0, 1, 98, 99, 100, 127};
        int[] held = {0, 0, 0, 1, 98, 99, 99, 99};
        HiredClaque x = RandomHouse.of(6);
        x.sheet(2, 0, 8);
        for (int i = 0; i < 8; i++) {
            x.put(2, i, bytes[i]);
        }
        Due.eq("36 eight", x.minds(2, 0, 0, 8), 8);
        for (int i = 0; i < 8; i++) {
            Due.eq("36 held " + bytes[i], x.of(i, 1), held[i]);
            Due.eq("39 the sheet stays", x.item(2, 0, i), bytes[i]);
        }
    }

    private static void mindsAtTheEnds() {
        HiredClaque x = RandomHouse.of(6);
        x.sheet(0, 0, 40);
        for (int i = 0; i < 40; i++) {
            x.put(0, i, i);
        }
        for (int p = 0; p < 8; p++) {
            for (int q = 0; q < 8; q++) {
                x.pride(q, 77);
            }
            Due.eq("36 from " + p + " on", x.minds(0, 32 + p, p, 8 - p), 8 - p);
            for (int q = 0; q < 8; q++) {
                Due.eq("36 pride of " + q + " from " + p + " on", x.of(q, 1), q < p ? 77 : 32 + q);
            }
        }
        Due.eq("36 none at the end", x.minds(0, 40, 7, 0), 0);
        Due.eq("36 none behind it", x.minds(0, 41, 7, 0), -12);
        Due.eq("36 one at the end", x.minds(0, 40, 7, 1), -12);
        Due.eq("36 the last", x.minds(0, 39, 7, 1), 1);
        Due.eq("36 two of the last", x.minds(0, 39, 6, 2), -12);
        x.sheet(0, 0, 0);
        Due.eq("36 none of an empty row", x.minds(0, 0, 0, 0), 0);
        Due.eq("36 one of an empty row", x.minds(0, 0, 0, 1), -12);
        Due.eq("36 none behind an empty row", x.minds(0, 1, 0, 0), -12);
        HiredClaque nobody = new HiredClaque();
        nobody.sheet(0, 0, 3);
        Due.eq("36 none of nobody", nobody.minds(0, 0, 0, 0), -1);
    }

    // ---- SHEETS

    private static void sheetsOfEachLength() {
        for (int sort = 0; sort < 4; sort++) {
            HiredClaque x = new HiredClaque();
            for (int n = 0; n <= 40; n++) {
                Due.eq("37 n " + n, x.sheet(1, sort, n), 1);
                Due.eq("38 behind the last", x.put(1, n, 5), -12);
                Due.eq("39 behind the last", x.item(1, sort, n), -12);
                x.shelf(0, 1, 1);
                Due.eq("41 n " + n, x.taken(0, sort + 10), n);
                if (n > 0) {
                    Due.eq("39 the last is 0", x.item(1, sort, n - 1), 0);
                    Due.eq("38 the last", x.put(1, n - 1, n), 1);
                    Due.eq("39 the last", x.item(1, sort, n - 1), n);
                }
            }
        }
    }

    private static void sheetsAnew() {
        HiredClaque x = new HiredClaque();
        for (int sort = 0; sort < 4; sort++) {
            for (int s = 0; s < 4; s++) {
                Due.eq("37 sheet " + s, x.sheet(s, sort, 3), 1);
                Due.eq("39 all 0", x.item(s, sort, 2), 0);
                x.put(s, 2, 10 * s + sort);
            }
            for (int s = 0; s < 4; s++) {
                Due.eq("39 each for itself", x.item(s, sort, 2), 10 * s + sort);
                Due.eq("39 another sort", x.item(s, (sort + 1) % 4, 2), -13);
            }
        }
        Due.eq("37 missing", x.sheet(2, -1, LEAST), 1);
        Due.eq("37 missing twice", x.sheet(2, -1, MOST), 1);
        Due.eq("38 missing", x.put(2, 0, 1), -11);
        Due.eq("39 missing", x.item(2, 3, 0), -11);
        Due.eq("39 the next stays", x.item(3, 3, 2), 33);
        Due.eq("37 a refused one stays", x.sheet(3, 3, 41), -1);
        Due.eq("39 a refused one stays", x.item(3, 3, 2), 33);
    }

    private static void narrowed() {
        int[] put = {0, 1, -1, 127, 128, -128, -129, 255, 256, -256, 32767, 32768, -32768, -32769, 65535, 65536,
            MOST, LEAST, MOST - 1, LEAST + 1};
        HiredClaque x = new HiredClaque();
        for (int sort = 0; sort < 4; sort++) {
            x.sheet(sort, sort, 1);
            for (int v : put) {
                Due.eq("38 narrowed or not", x.put(sort, 0, v), 1);
                int due = sort == 0 ? (byte) v : sort == 1 ? (short) v : v;
                Due.eq("39 sort " + sort + " of " + v, x.item(sort, sort, 0), due);
            }
        }
        x.put(2, 0, -11);
        Due.eq("39 an item as low as a refusal", x.item(2, 2, 0), -11);
        x.put(3, 0, -12);
        Due.eq("39 an item as low as a refusal", x.item(3, 3, 0), -12);
    }

    private static void takenForItsSortAlone() {
        for (int sort = 0; sort < 4; sort++) {
            HiredClaque x = new HiredClaque();
            x.sheet(0, sort, 2);
            for (int as = 0; as < 4; as++) {
                Due.eq("39 sort " + sort + " as " + as, x.item(0, as, 1), as == sort ? 0 : -13);
                Due.eq("39 -13 is before -12", x.item(0, as, 2), as == sort ? -12 : -13);
            }
        }
    }

    // ---- SHELVES

    private static void heldOfPeople() {
        HiredClaque x = new HiredClaque();
        Due.eq("40 nobody yet", x.shelf(0, 0, 0), -1);
        x.keep();
        x.person(WIFE, 1, 4, 3);
        x.shelf(0, 0, 0);
        Due.eq("41 a wife", x.taken(0, WIFE), 0);
        x.mind(0, COOK, 5);
        Due.eq("41 a cook now", x.taken(0, COOK), 0);
        x.mind(0, RIVAL, 5);
        Due.eq("41 no wife any more", x.taken(0, WIFE), -13);
        x.again();
        Due.eq("41 nobody at the time", x.taken(0, GUEST), -11);
        Due.eq("41 nobody, nor a row", x.taken(0, 10), -11);
        Due.eq("42 nobody at the time", x.act(0, COUGHS, 5), 0);
        Due.eq("42 no trace", x.many(6), 0);
        Due.tell(x, "hand in 0; chief in 1;");
        x.opera();
        Due.eq("41 a hand at the time", x.taken(0, HAND), 0);
        Due.eq("41 it is held by its number", x.act(0, PARTS, 9), 3);
        x.opera();
        Due.eq("41 nobody again", x.taken(0, HAND), -11);
    }

    private static void heldRows() {
        HiredClaque x = new HiredClaque();
        x.person(GUEST, 0, 0, 0);
        for (int s = 0; s < 4; s++) {
            Due.eq("40 a missing row", x.shelf(s, 1, s), 1);
            Due.eq("41 nothing", x.taken(s, 10 + s), -11);
            x.sheet(s, s, s);
            Due.eq("41 it holds nothing still", x.taken(s, 10 + s), -11);
            x.shelf(s, 1, s);
            Due.eq("41 the row", x.taken(s, 10 + s), s);
            x.sheet(s, s, 30);
            Due.eq("41 the row, not the sheet", x.taken(s, 10 + s), s);
            x.sheet(s, -1, 0);
            Due.eq("41 the row, though the sheet is missing", x.taken(s, 10 + s), s);
            Due.eq("42 a row doesn't act", x.act(s, COUGHS, 5), 0);
        }
        Due.eq("40 nothing for a row", x.shelf(1, 1, 1), 1);
        Due.eq("41 nothing", x.taken(1, 11), -11);
    }

    private static void oneShelfEach() {
        HiredClaque x = RandomHouse.of(9);
        for (int s = 0; s < 4; s++) {
            x.shelf(s, 0, 7 - s);
        }
        for (int s = 0; s < 4; s++) {
            Due.eq("41 shelf " + s, x.taken(s, GUEST), 7 - s);
        }
        x.shelf(2, 2, 5);
        Due.eq("41 nothing", x.taken(2, GUEST), -11);
        Due.eq("41 the others stay", x.taken(1, GUEST), 6);
        Due.eq("41 the others stay", x.taken(3, GUEST), 4);
    }

    private static void underWhichKind() {
        int[] above = {-1, GUEST, GUEST, WIFE, HAND, GUEST};
        HiredClaque x = new HiredClaque();
        x.person(GUEST, 0, 0, 0);
        x.person(GUEST, 0, 0, 0);
        x.shelf(0, 0, 1);
        for (int kind = 0; kind < 6; kind++) {
            x.mind(1, kind, 0);
            for (int as = 0; as < 6; as++) {
                boolean under = false;
                for (int k = kind; k >= 0; k = above[k]) {
                    under |= k == as;
                }
                Due.eq("41 kind " + kind + " as " + as, x.taken(0, as), under ? 1 : -13);
            }
        }
    }

    // ---- ACTS

    /** One of a kind, its number 3, on shelf 0. */
    private static HiredClaque third(int kind, int ear) {
        HiredClaque x = new HiredClaque();
        for (int p = 0; p < 3; p++) {
            x.person(GUEST, 0, 0, 0);
        }
        x.person(kind, 0, ear, 0);
        x.shelf(0, 0, 3);
        return x;
    }

    private static void acts(int kind, int ear, int act, int v, int due) {
        Due.eq("42 kind " + kind + " of ear " + ear + ", act " + act + " with " + v, third(kind, ear).act(0, act, v), due);
    }

    private static void coughsWrap() {
        acts(GUEST, 0, COUGHS, LEAST, MOST - 20);
        acts(GUEST, 0, COUGHS, LEAST + 21, LEAST);
        acts(GUEST, 0, COUGHS, LEAST + 20, MOST);
        acts(HAND, 0, COUGHS, LEAST + 20, MOST - 1);
        acts(HAND, 0, COUGHS, LEAST + 21, LEAST + 1);
        acts(CHIEF, 0, COUGHS, LEAST + 22, LEAST);
        acts(CHIEF, 0, COUGHS, LEAST + 21, MOST);
        acts(COOK, 0, COUGHS, MOST, (MOST - 21) * 3);
        acts(COOK, 0, COUGHS, 715827904, LEAST + 1);
        acts(RIVAL, 0, COUGHS, LEAST, MOST - 20);
        acts(WIFE, 0, COUGHS, 21, 0);
    }

    private static void laughsWrap() {
        acts(GUEST, 9, LAUGHS, MOST, -44 + 9);
        acts(GUEST, 9, LAUGHS, (1 << 30) + 21, LEAST + 9);
        acts(GUEST, 9, LAUGHS, (1 << 30) + 20, MOST - 1 + 9);
        acts(WIFE, 4, LAUGHS, (1 << 30) + 21, MOST - 3);
        acts(WIFE, 9, LAUGHS, (1 << 30) + 21, LEAST + 1);
        acts(COOK, 0, LAUGHS, MOST, (MOST - 21) * 3 * 2 - 8);
        acts(CHIEF, 9, LAUGHS, LEAST, -(MOST - 20 ^ 1) * 2 + 9 - (-12 ^ 1));
    }

    private static void partsWrap() {
        acts(GUEST, 2, PARTS, LEAST, LEAST);
        acts(GUEST, 2, PARTS, MOST, -MOST);
        acts(GUEST, 4, PARTS, LEAST, LEAST);
        acts(RIVAL, 2, PARTS, LEAST, LEAST ^ 3 - 21);
        acts(COOK, 9, PARTS, MOST, (LEAST + 8) / 6 - 3);
        acts(COOK, 2, PARTS, LEAST, -(LEAST + 2) - 3);
        acts(COOK, 2, PARTS, LEAST - 2, MOST - 2);
        acts(COOK, 4, PARTS, LEAST, LEAST + 4 - 3);
        acts(COOK, 4, PARTS, LEAST - 4, MOST - 2);
    }

    private static void risesWrap() {
        acts(GUEST, 9, RISES, MOST, -35 ^ 90);
        acts(RIVAL, 0, RISES, (1 << 30) + 21, 5 - (LEAST ^ 90));
        acts(HAND, 4, RISES, (1 << 30) + 21, (LEAST + 6 ^ 90) - 3);
    }

    /** -15 is all that act() answers, whatever would be reckoned with it. */
    private static void partedOfEachKind() {
        for (int kind = 0; kind < 6; kind++) {
            for (int v : new int[] {LEAST, -15, -1, 0, 1, 15, MOST}) {
                HiredClaque x = third(kind, 3);
                Due.eq("42 parted, kind " + kind, x.act(0, PARTS, v), -15);
                boolean risesParted = kind == HAND || kind == CHIEF;
                Due.eq("42 rises, kind " + kind, x.act(0, RISES, v) == -15 ? 1 : 0, risesParted ? 1 : 0);
                Due.eq("42 the next act is as ever", x.act(0, COUGHS, 21), kind == HAND ? 1 : kind == CHIEF ? -1 : 0);
                x.mind(3, kind, 4);
                Due.eq("42 not parted by 1", x.act(0, PARTS, 100),
                    kind == COOK ? 101 : kind == RIVAL ? 100 ^ 3 - 21 : 100);
            }
        }
    }

    /** Cut towards 0, also below it. */
    private static void negativeParts() {
        acts(GUEST, 5, PARTS, 7, 3);
        acts(GUEST, 5, PARTS, -7, -3);
        acts(GUEST, 1, PARTS, 7, -3);
        acts(GUEST, 1, PARTS, -7, 3);
        acts(GUEST, 0, PARTS, -1, 0);
        acts(GUEST, 9, PARTS, -5, 0);
        acts(COOK, 5, PARTS, -12, -6);
        acts(RIVAL, 5, PARTS, -7, -3 ^ -18);
    }

    // ---- THE TRACE

    private static void traceOfTheLatest() {
        HiredClaque x = third(CHIEF, 5);
        Due.eq("43 none yet", x.trace(0), -3);
        x.act(0, RISES, 0);
        Due.eq("44 eleven", x.many(6), 11);
        x.act(0, PARTS, 0);
        Due.eq("44 one", x.many(6), 1);
        Due.eq("43 it alone", x.trace(0), 12);
        Due.eq("43 none of the act before", x.trace(1), -3);
        x.act(0, LAUGHS, 0);
        Due.eq("44 eight", x.many(6), 8);
        x.act(0, 4, 0);
        Due.eq("44 none by a refused act", x.many(6), 0);
        x.act(0, COUGHS, 0);
        int before = x.many(6);
        x.shelf(0, 2, 0);
        x.taken(0, 0);
        x.mind(3, 0, 0);
        Due.eq("44 it stays till the next act", x.many(6), before);
    }

    private static void longestTrace() {
        HiredClaque x = third(CHIEF, 5);
        x.act(0, RISES, 7);
        int[] bodies = {31, 13, 41, 11, 40, 30, 10, 40, 30, 10, 12};
        for (int i = 0; i < 40; i++) {
            Due.eq("43 body " + i, x.trace(i), i < bodies.length ? bodies[i] : -3);
        }
    }

    // ---- The whole

    private static void manyAtTheEnds() {
        HiredClaque x = new HiredClaque();
        for (int p = 0; p < 8; p++) {
            Due.eq("44 people", x.many(0), p);
            Due.eq("44 that clap", x.many(1), p);
            Due.eq("44 rooms", x.many(2), p);
            Due.eq("44 of pride 99", x.many(3), p / 2);
            x.person(GUEST, p % 2 == 0 ? 98 : 99, 0, p);
            x.clap(p, 1);
        }
        Due.eq("44 eight", x.many(0), 8);
        Due.eq("44 eight clap", x.many(1), 8);
        Due.eq("44 eight rooms", x.many(2), 8);
        Due.eq("44 four of pride 99", x.many(3), 4);
        x.minutes(1);
        Due.eq("44 eight of pride 99", x.many(3), 8);
        for (int p = 0; p < 8; p++) {
            x.move(p, 7);
        }
        Due.eq("44 one room", x.many(2), 1);
        Due.eq("18 the last room", x.state(4), 128);
    }

    private static void keptAndAgain() {
        HiredClaque x = new HiredClaque();
        Due.eq("46 nothing is kept", x.again(), -3);
        Due.eq("45 nobody is kept", x.keep(), 1);
        Due.eq("46 nobody", x.again(), 0);
        for (int p = 0; p < 8; p++) {
            x.person(p % 6, p, p, p);
        }
        Due.eq("46 nobody again", x.again(), 0);
        for (int p = 0; p < 8; p++) {
            x.person(p % 6, p, p, p);
            x.clap(p, p % 2);
        }
        x.keep();
        x.again();
        Due.eq("46 all that clap", x.state(1), 170);
        x.opera();
        Due.eq("46 eight", x.again(), 8);
        Due.eq("46 all that clap", x.state(1), 170);
        Due.eq("46 full", x.person(0, 0, 0, 0), -2);
    }

    private static void keptIsNotWhatIsNow() {
        HiredClaque x = RandomHouse.of(11);
        x.seed(LEAST);
        x.minutes(3);
        x.keep();
        int[] due = {x.state(0), x.state(1), x.state(2), x.state(3), x.state(4), x.state(5)};
        for (int i = 0; i < 3; i++) {
            x.minutes(7);
            x.seed(MOST);
            x.minute();
            x.set(0, 0);
            x.mind(0, 5, 5);
            x.move(1, 1);
            x.pride(2, 2);
            Due.eq("46 again", x.again(), 8);
            for (int what = 0; what < 6; what++) {
                Due.eq("46 state " + what, x.state(what), due[what]);
            }
            Due.eq("46 z", x.seed(5), LEAST);
        }
    }

    /** Eight that are gone by a TEXT of fewer leave nothing behind, in what is asked of all together. */
    private static void theGoneByOpera() {
        for (int there = 0; there < 8; there++) {
            HiredClaque x = new HiredClaque();
            for (int p = 0; p < 8; p++) {
                x.person(CHIEF, 99, 9, 7);
                x.clap(p, 1);
            }
            x.clapping(0);
            Due.tell(x, "wife in 2 pride 3 ear 4;".repeat(there));
            Due.eq("3 fewer", x.opera(), there);
            int[] due = {0, 0, 3 * there, 1000, there == 0 ? 0 : 4, 4 * there};
            for (int what = 0; what < 6; what++) {
                Due.eq("18 state " + what + " of " + there, x.state(what), due[what]);
            }
            int[] many = {there, 0, there == 0 ? 0 : 1, 0};
            for (int what = 0; what < 4; what++) {
                Due.eq("44 many " + what + " of " + there, x.many(what), many[what]);
            }
            Due.eq("13 in 7", x.room(7, 0), 0);
            Due.eq("13 in 2", x.room(2, 0), (1 << there) - 1);
            Due.eq("7 no such one", x.of(there, 0), -1);
        }
    }
}
