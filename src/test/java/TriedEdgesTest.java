import java.math.BigInteger;

/** Terms 2: each sentence about what is TRIED, ODDS and HOPE, where it has an edge. */
public final class TriedEdgesTest {
    private static final int GUEST = 0, WIFE = 1, HAND = 2, RIVAL = 5;

    public static void main(String[] args) {
        clappingOfNoMinute();
        joinsAtEachMinute();
        allNeedsEverybody();
        hushNeedsNobody();
        nobody();
        roundIsJustThose();
        roundNotNow();
        leastRoom();
        leastKind();
        leastEar();
        earsToNineAlone();
        wereItThereNow();
        begunByFewest();
        begunByNobodyElse();
        begunNotByItself();
        begunLeastOfSeveral();
        begunBySevenOthers();
        hiredFewest();
        hiredLeastOfSeveral();
        hiredAreHandsNow();
        hiredAllEight();
        fitsAnyNumber();
        fitsEachMinute();
        fitsFullSheet();
        fitsWideNumbers();
        stirMoreThanAMinute();
        stirGoesOnByZ();
        stirFromZAsItIsNow();
        oddsByAll();
        oddsTogetherAreOne();
        hopeByAll();
        Due.end();
    }

    private static int add(HiredClaque x, int kind, int ear, int room, int claps) {
        int p = x.person(kind, 0, ear, room);
        x.clap(p, claps);
        return p;
    }

    /** A guest that claps on and on, and a wife that joins when her pride makes up for her ear of 7: in minute 60 - pride + 1. */
    private static HiredClaque joining(int pride) {
        HiredClaque x = new HiredClaque();
        add(x, GUEST, 0, 0, 1);
        x.person(WIFE, pride, 7, 0);
        return x;
    }

    private static void clappingOfNoMinute() {
        for (int seed = 0; seed < 8; seed++) {
            HiredClaque x = RandomHouse.of(seed);
            Due.eq("Terms 2: clapping by 0", x.clapping(0), x.state(1));
            int sixty = x.clapping(60);
            int one = x.clapping(1);
            x.minutes(1);
            Due.eq("Terms 2: clapping by 1", x.state(1), one);
            x.minutes(59);
            Due.eq("Terms 2: clapping by 60", x.state(1), sixty);
        }
    }

    private static void joinsAtEachMinute() {
        for (int pride = 0; pride <= 60; pride++) {
            HiredClaque x = joining(pride);
            int due = pride == 0 ? -3 : 61 - pride;
            Due.eq("Terms 2: joins from pride " + pride, x.joins(1), due);
            Due.eq("Terms 2: all from pride " + pride, x.all(), due);
            Due.eq("Terms 2: the first claps now", x.joins(0), 0);
            x.clap(1, 1);
            Due.eq("Terms 2: joins at once", x.joins(1), 0);
            Due.eq("Terms 2: all at once", x.all(), 0);
            Due.eq("Terms 2: round from pride " + pride, x.round(), due);
        }
    }

    private static void allNeedsEverybody() {
        for (int quiet = 0; quiet < 8; quiet++) {
            HiredClaque x = new HiredClaque();
            for (int p = 0; p < 8; p++) {
                add(x, GUEST, 2, 0, p == quiet ? 0 : 1);
            }
            Due.eq("Terms 2: all but " + quiet, x.all(), 1);
            x.mind(quiet, RIVAL, 9);
            x.move(quiet, 4);
            Due.eq("Terms 2: never " + quiet, x.all(), -3);
        }
    }

    private static void hushNeedsNobody() {
        for (int loud = 0; loud < 8; loud++) {
            HiredClaque x = new HiredClaque();
            for (int p = 0; p < 8; p++) {
                add(x, GUEST, 9, p, p == loud ? 1 : 0);
            }
            Due.eq("Terms 2: hush behind " + loud, x.hush(), 1);
            x.clap(loud, 0);
            Due.eq("Terms 2: hush now", x.hush(), 0);
            x.mind(loud, GUEST, 0);
            x.clap(loud, 1);
            Due.eq("Terms 2: never", x.hush(), -3);
        }
    }

    private static void nobody() {
        HiredClaque x = new HiredClaque();
        Due.eq("Terms 2: all of nobody", x.all(), 0);
        Due.eq("Terms 2: hush of nobody", x.hush(), 0);
        Due.eq("Terms 2: round of nobody", x.round(), 1);
        Due.eq("Terms 2: clapping of nobody", x.clapping(60), 0);
        Due.eq("Terms 2: hired of nobody", x.hiredFor(20), 0);
        x.minutes(1);
        Due.eq("Terms 2: all of nobody later", x.all(), 0);
    }

    /** Not as many, and not these and more: just those. */
    private static void roundIsJustThose() {
        HiredClaque swap = new HiredClaque();
        add(swap, GUEST, 4, 0, 1);
        add(swap, GUEST, 1, 0, 0);
        swap.mind(0, GUEST, 1);
        Due.eq("Terms 2: one then the other", swap.clapping(1), 2);
        Due.eq("Terms 2: as many are not those", swap.round(), 2);
        HiredClaque more = new HiredClaque();
        add(more, GUEST, 0, 0, 1);
        add(more, GUEST, 1, 0, 0);
        Due.eq("Terms 2: those and more", more.clapping(1), 3);
        Due.eq("Terms 2: are not just those", more.round(), -3);
    }

    private static void roundNotNow() {
        HiredClaque x = new HiredClaque();
        add(x, GUEST, 0, 0, 1);
        Due.eq("Terms 2: behind one at least", x.round(), 1);
        HiredClaque cue = new HiredClaque();
        add(cue, HAND, 9, 0, 1);
        for (int each = 1; each <= 9; each++) {
            cue.set(1, each);
            Due.eq("Terms 2: the cue is now", cue.round(), 1);
        }
        cue.minutes(1);
        for (int each = 2; each <= 9; each++) {
            cue.set(1, each);
            Due.eq("Terms 2: quiet is the next cue's first", cue.round(), each);
        }
    }

    // ---- ROOM FOR, KIND FOR, EAR FOR

    private static void leastRoom() {
        for (int at = 0; at < 8; at++) {
            HiredClaque x = new HiredClaque();
            x.person(GUEST, 0, 9, 3);
            add(x, GUEST, 9, at, 1);
            Due.eq("Terms 2: the room of the other", x.roomFor(0, 1), at);
            x.pride(0, 97);
            int least = at == 0 ? 0 : at == 7 ? 0 : at - 1;
            Due.eq("Terms 2: the least of three that bring it to 99", x.roomFor(0, 1), least);
            x.pride(0, 99);
            Due.eq("Terms 2: all bring it to 99", x.roomFor(0, 1), 0);
            x.mind(1, RIVAL, 9);
            x.pride(0, 0);
            Due.eq("Terms 2: all bring it to 0", x.roomFor(0, 1), 0);
            x.pride(0, 50);
            int[] away = {2, 3, 0, 0, 0, 0, 0, 1};
            Due.eq("Terms 2: away from the rival in " + at, x.roomFor(0, 1), away[at]);
        }
    }

    private static void leastKind() {
        for (int kind = 0; kind < 6; kind++) {
            HiredClaque x = new HiredClaque();
            x.person(kind, 50, 5, 0);
            Due.eq("Terms 2: alone, all kinds are as good", x.kindFor(0, 20), 0);
            add(x, RIVAL, 9, 0, 1);
            Due.eq("Terms 2: by one minute, too", x.kindFor(0, 1), 0);
        }
        HiredClaque answered = new HiredClaque();
        add(answered, GUEST, 9, 0, 1);
        add(answered, GUEST, 5, 0, 0);
        answered.set(0, 1);
        Due.eq("Terms 2: wife and hand bring the same", answered.kindFor(0, 2), 1);
    }

    private static void leastEar() {
        HiredClaque x = new HiredClaque();
        add(x, GUEST, 5, 0, 1);
        add(x, GUEST, 2, 0, 0);
        Due.eq("Terms 2: ears 3 to 9 bring the same", x.earFor(0, 2), 3);
        x.mind(1, GUEST, 4);
        Due.eq("Terms 2: ear 9 alone", x.earFor(0, 2), 9);
        x.mind(1, GUEST, 5);
        Due.eq("Terms 2: none brings anything", x.earFor(0, 2), 0);
        x.pride(0, 99);
        x.mind(1, GUEST, 0);
        Due.eq("Terms 2: held at 99", x.earFor(0, 2), 0);
    }

    /**
     * A hand that claps on and on brings one to hear 9: with each EAR it claps then, which wakes a rival. With an EAR
     * of 10 it would stay quiet, and be prouder behind 3 MINUTES.
     */
    private static void earsToNineAlone() {
        HiredClaque x = guests(5);
        x.set(0, 8);
        x.set(1, 1);
        add(x, HAND, 0, 0, 1);
        add(x, RIVAL, 7, 0, 0);
        for (int ear = 0; ear <= 9; ear++) {
            x.mind(0, GUEST, ear);
            x.keep();
            x.minutes(3);
            Due.eq("Terms 2: pride by ear " + ear, x.of(0, 1), 9 + 9 + 6);
            x.again();
        }
        Due.eq("Terms 2: of ears 0 to 9 the least", x.earFor(0, 3), 0);
    }

    /** It is there, so, with that ear from now on, not behind the MINUTES; the answer is by the last of them. */
    private static void wereItThereNow() {
        HiredClaque x = new HiredClaque();
        x.person(GUEST, 0, 9, 0);
        add(x, GUEST, 9, 2, 1);
        add(x, HAND, 6, 5, 0);
        x.minutes(2);
        x.clap(1, 1);
        x.pride(0, 0);
        Due.eq("Terms 2: by one minute the first", x.roomFor(0, 1), 2);
        Due.eq("Terms 2: by two minutes the first still", x.roomFor(0, 2), 2);
        x.set(0, 9);
        x.minutes(1);
        x.clap(1, 1);
        x.clap(2, 0);
        x.pride(0, 0);
        Due.eq("Terms 2: minute 3", x.state(0), 3);
        Due.eq("Terms 2: by one minute", x.roomFor(0, 1), 2);
        Due.eq("Terms 2: by two minutes the hand's", x.roomFor(0, 2), 5);
    }

    // ---- BEGUN FOR, HIRED FOR

    private static HiredClaque guests(int... ears) {
        HiredClaque x = new HiredClaque();
        for (int ear : ears) {
            x.person(GUEST, 0, ear, 0);
        }
        return x;
    }

    private static void begunByFewest() {
        Due.eq("Terms 2: by one, though two of less number do", guests(2, 0, 0, 3).begunFor(0, 1), 8);
        Due.eq("Terms 2: by two", guests(2, 0, 0, 2).begunFor(0, 1), 6);
        Due.eq("Terms 2: by three", guests(3, 0, 0, 2).begunFor(0, 1), 14);
        Due.eq("Terms 2: by none of three", guests(4, 0, 0, 2).begunFor(0, 1), -3);
        Due.eq("Terms 2: by nobody", guests(0, 0, 0, 2).begunFor(0, 1), 0);
        Due.eq("Terms 2: alone by nobody", guests(0).begunFor(0, 1), 0);
        Due.eq("Terms 2: alone by none", guests(1).begunFor(0, 20), -3);
    }

    private static void begunByNobodyElse() {
        HiredClaque x = guests(1, 9, 9);
        x.clap(1, 1);
        x.clap(2, 1);
        x.mind(2, RIVAL, 9);
        Due.eq("Terms 2: the rival is quiet", x.begunFor(0, 1), 2);
        HiredClaque self = guests(1, 1);
        self.clap(0, 1);
        Due.eq("Terms 2: behind two, by itself, if it clapped", self.clapping(2), 1);
        Due.eq("Terms 2: but it doesn't, nor is it an other", self.begunFor(0, 2), -3);
        Due.eq("Terms 2: behind one by the other", self.begunFor(0, 1), 2);
        Due.eq("Terms 2: the last of the two", self.begunFor(1, 1), 1);
    }

    /** By its own clapping now one would bring a second to clap, and so itself: but it is no other. */
    private static void begunNotByItself() {
        for (int self = 0; self < 8; self++) {
            HiredClaque x = new HiredClaque();
            for (int p = 0; p < 8; p++) {
                x.person(GUEST, 0, p == self ? 1 : p == (self + 1) % 8 ? 1 : 9, p == self || p == (self + 1) % 8 ? 0 : 4);
            }
            x.clap(self, 1);
            Due.eq("Terms 2: by its own clapping", x.clapping(2) >> self & 1, 1);
            Due.eq("Terms 2: no others bring it to that", x.begunFor(self, 2), -3);
            Due.eq("Terms 2: the other does behind 1", x.begunFor(self, 1), 1 << (self + 1) % 8);
        }
    }

    private static void begunLeastOfSeveral() {
        Due.eq("Terms 2: the least of three", guests(1, 0, 0, 0).begunFor(0, 1), 2);
        Due.eq("Terms 2: of less number, too", guests(0, 0, 0, 1).begunFor(3, 1), 1);
        Due.eq("Terms 2: the least of three pairs", guests(2, 0, 0, 0).begunFor(0, 1), 6);
        Due.eq("Terms 2: the least of three pairs", guests(0, 0, 0, 2).begunFor(3, 1), 3);
        Due.eq("Terms 2: itself between them", guests(0, 2, 0, 0).begunFor(1, 1), 5);
    }

    private static void begunBySevenOthers() {
        Due.eq("Terms 2: by all seven others", guests(7, 0, 0, 0, 0, 0, 0, 0).begunFor(0, 1), 254);
        Due.eq("Terms 2: by all seven others", guests(0, 0, 0, 0, 0, 0, 0, 7).begunFor(7, 1), 127);
        Due.eq("Terms 2: seven are not enough", guests(8, 0, 0, 0, 0, 0, 0, 0).begunFor(0, 1), -3);
    }

    private static void hiredFewest() {
        HiredClaque x = guests(9, 0, 9);
        Due.eq("Terms 2: those two that wouldn't", x.hiredFor(1), 5);
        x.mind(2, HAND, 9);
        Due.eq("Terms 2: a hand needs no hire", x.hiredFor(1), 1);
        x.mind(0, HAND, 9);
        Due.eq("Terms 2: none", x.hiredFor(1), 0);
        x.minutes(1);
        Due.eq("Terms 2: no cue, but by pay the guest is loud enough", x.hiredFor(1), 2);
        x.set(0, 0);
        Due.eq("Terms 2: no cue, no pay, no hire helps", x.hiredFor(1), -3);
        x.set(1, 1);
        Due.eq("Terms 2: the cue is each minute", x.hiredFor(1), 0);
    }

    /** The first, that is hired itself without a cue, needs to hear 5, then 9; each other that is hired is by 3 louder. */
    private static void hiredLeastOfSeveral() {
        HiredClaque x = guests(5, 0, 0, 0);
        x.set(0, 3);
        x.minutes(1);
        Due.eq("Terms 2: the others clap", x.state(1), 14);
        Due.eq("Terms 2: the least of three that could be hired", x.hiredFor(1), 2);
        x.mind(0, GUEST, 9);
        Due.eq("Terms 2: the least of three pairs", x.hiredFor(1), 6);
        x.set(0, 2);
        Due.eq("Terms 2: all three", x.hiredFor(1), 14);
        x.set(0, 1);
        Due.eq("Terms 2: by no set", x.hiredFor(1), -3);
    }

    /** They are hands from now on, as loud as PAY makes them, and none of them claps for being hired. */
    private static void hiredAreHandsNow() {
        HiredClaque x = guests(9, 9);
        x.set(1, 2);
        Due.eq("Terms 2: by the cue", x.hiredFor(1), 3);
        x.set(0, 0);
        Due.eq("Terms 2: behind two there is no cue", x.hiredFor(2), -3);
        x.set(0, 5);
        Due.eq("Terms 2: but they hear 9", x.hiredFor(2), 3);
        x.set(0, 4);
        Due.eq("Terms 2: or 8", x.hiredFor(2), -3);
        Due.eq("Terms 2: behind three by the cue", x.hiredFor(3), 3);
    }

    private static void hiredAllEight() {
        Due.eq("Terms 2: all eight", guests(9, 9, 9, 9, 9, 9, 9, 9).hiredFor(1), 255);
        Due.eq("Terms 2: the last alone", guests(0, 0, 0, 0, 0, 0, 0, 9).hiredFor(1), 128);
        Due.eq("Terms 2: none of eight", guests(0, 0, 0, 0, 0, 0, 0, 0).hiredFor(1), 0);
    }

    // ---- FITS

    /** Person 0, whose ear is asked for; a guest of ear 2 that claps when it hears an ear of 3 or more; see fitsEachMinute. */
    private static HiredClaque told(int sort, int... numbers) {
        HiredClaque x = guests(5, 2);
        x.clap(0, 1);
        x.sheet(0, sort, numbers.length);
        for (int i = 0; i < numbers.length; i++) {
            x.put(0, i, numbers[i]);
        }
        return x;
    }

    private static void fit(String what, HiredClaque x, int howMany, int least) {
        Due.eq(what + ": how many", x.fits(0, 0, 0), howMany);
        Due.eq(what + ": the least", x.fits(0, 0, 1), least);
    }

    private static void fitsAnyNumber() {
        for (int sort = 0; sort < 4; sort++) {
            fit("Terms 2: any", told(sort, -1), 10, 0);
            fit("Terms 2: any, any", told(sort, -1, -1), 10, 0);
            fit("Terms 2: an empty sheet", told(sort), 10, 0);
            fit("Terms 2: -2 is not any", told(sort, -2), 0, -3);
            fit("Terms 2: the least int is not any", told(sort == 0 ? 0 : sort, -128), 0, -3);
            fit("Terms 2: any, then none", told(sort, -1, 2), 0, -3);
        }
    }

    /** Ears 1 and 2: quiet at once. Ear 0: it claps itself. From 3 on: the other claps. Then ears 3 and more are quiet. */
    private static void fitsEachMinute() {
        fit("Terms 2: nobody behind 1", told(1, 0), 2, 1);
        fit("Terms 2: one behind 1", told(1, 1), 8, 0);
        fit("Terms 2: one, then nobody", told(1, 1, 0), 7, 3);
        fit("Terms 2: one, then one", told(1, 1, 1), 1, 0);
        fit("Terms 2: one, nobody, nobody", told(1, 1, 0, 0), 7, 3);
        fit("Terms 2: one, nobody, one", told(1, 1, 0, 1), 0, -3);
        fit("Terms 2: the first counts, too", told(1, 0, 1), 0, -3);
        fit("Terms 2: the last counts, too", told(1, -1, -1, 1), 1, 0);
        fit("Terms 2: two", told(1, 2), 0, -3);
    }

    private static void fitsFullSheet() {
        int[] numbers = new int[40];
        for (int i = 0; i < 40; i++) {
            numbers[i] = i == 0 ? 1 : 0;
        }
        fit("Terms 2: forty minutes", told(0, numbers), 7, 3);
        numbers[39] = 1;
        fit("Terms 2: the fortieth is another", told(0, numbers), 0, -3);
        numbers[39] = -1;
        fit("Terms 2: the fortieth is any", told(0, numbers), 7, 3);
    }

    /** Numbers are taken as their sort holds them. */
    private static void fitsWideNumbers() {
        fit("Terms 2: a byte of 257 is 1", told(0, 257), 8, 0);
        fit("Terms 2: a byte of 255 is any", told(0, 255), 10, 0);
        fit("Terms 2: a short of 257", told(1, 257), 0, -3);
        fit("Terms 2: a short of 65537 is 1", told(1, 65537), 8, 0);
        fit("Terms 2: a short of 65535 is any", told(1, 65535), 10, 0);
        fit("Terms 2: an int of 65537", told(2, 65537), 0, -3);
        fit("Terms 2: an int of 65535", told(2, 65535), 0, -3);
        fit("Terms 2: a long of 65535", told(3, 65535), 0, -3);
        fit("Terms 2: a long of -1 is any", told(3, -1), 10, 0);
    }

    // ---- STIR

    /** By seed 1 the second draw leaves 26 by 100, and the first one 0 by 2. */
    private static void stirMoreThanAMinute() {
        HiredClaque more = guests(9, 4);
        more.set(3, 27);
        Due.eq("Terms 2: one more than none", more.stir(1), 1);
        more.set(3, 26);
        Due.eq("Terms 2: no wrong cue", more.stir(1), 0);
        HiredClaque less = guests(9, 4);
        less.set(3, 27);
        less.clap(0, 1);
        Due.eq("Terms 2: less than by a minute", less.stir(1), 0);
        HiredClaque same = guests(9, 9);
        same.set(3, 27);
        Due.eq("Terms 2: as many as by a minute", same.stir(1), 0);
    }

    private static void stirGoesOnByZ() {
        for (int seed = 0; seed < 30; seed++) {
            HiredClaque x = RandomHouse.of(seed);
            x.set(3, 60);
            x.seed(seed * 77);
            x.keep();
            int without = Integer.bitCount(x.clapping(1));
            int z = seed * 77;
            int more = 0;
            for (int n = 1; n <= 30; n++) {
                x.again();
                x.seed(z);
                more += x.minute() > without ? 1 : 0;
                z = x.seed(0);
                x.again();
                Due.eq("Terms 2: stir of " + n + " by seed " + seed, x.stir(n), more);
            }
            Due.eq("Terms 2: z is as it was", x.seed(0), seed * 77);
        }
    }

    /** Whatever z was at first, or is kept. If the first of two is wrong, the second claps then. */
    private static void stirFromZAsItIsNow() {
        HiredClaque x = guests(9, 4);
        x.set(3, 99);
        int[] seeds = {1, 0, 3, -7, 1 << 20, Integer.MIN_VALUE, Integer.MAX_VALUE};
        int differ = 0;
        for (int kept : seeds) {
            for (int seed : seeds) {
                x.seed(kept);
                x.keep();
                x.seed(seed);
                int first = seed * 1103515245 + 12345;
                int second = first * 1103515245 + 12345;
                int due = (first >>> 16) % 2 == 0 && (second >>> 16) % 100 < 99 ? 1 : 0;
                Due.eq("Terms 2: stir from z " + seed, x.stir(1), due);
                differ |= 1 << due;
            }
        }
        Due.eq("Terms 2: some more, some not", differ, 3);
    }

    // ---- ODDS, HOPE

    private static void oddsByAll() {
        for (int wrong = 0; wrong <= 99; wrong++) {
            HiredClaque x = new HiredClaque();
            x.set(3, wrong);
            for (int n = 0; n <= 8; n++) {
                BigInteger ways = BigInteger.ONE;
                for (int k = 0; k <= n; k++) {
                    BigInteger above = ways.multiply(BigInteger.valueOf(wrong).pow(k))
                        .multiply(BigInteger.valueOf(100 - wrong).pow(n - k));
                    BigInteger below = BigInteger.valueOf(100).pow(n);
                    BigInteger divisor = above.gcd(below);
                    String what = "Terms 2: odds of " + k + " of " + n + " by " + wrong;
                    Due.eq(what + ", above", x.odds(n, k, 0), above.divide(divisor).longValueExact());
                    Due.eq(what + ", below", x.odds(n, k, 1), below.divide(divisor).longValueExact());
                    ways = ways.multiply(BigInteger.valueOf(n - k)).divide(BigInteger.valueOf(k + 1));
                }
            }
        }
    }

    private static void oddsTogetherAreOne() {
        HiredClaque x = new HiredClaque();
        x.set(3, 0);
        for (int n = 0; n <= 8; n++) {
            for (int k = 0; k <= n; k++) {
                Due.eq("Terms 2: never wrong, above", x.odds(n, k, 0), k == 0 ? 1 : 0);
                Due.eq("Terms 2: 0 is 0 by 1", x.odds(n, k, 1), 1);
            }
        }
    }

    private static void hopeByAll() {
        for (int wrong = 0; wrong <= 99; wrong++) {
            HiredClaque x = new HiredClaque();
            x.set(3, wrong);
            for (int n = 0; n <= 99; n++) {
                int divisor = BigInteger.valueOf(n * wrong).gcd(BigInteger.valueOf(100)).intValue();
                Due.eq("Terms 2: hope by " + n + ", above", x.hope(n, 0), n * wrong / divisor);
                Due.eq("Terms 2: hope by " + n + ", below", x.hope(n, 1), 100 / divisor);
            }
        }
    }
}
