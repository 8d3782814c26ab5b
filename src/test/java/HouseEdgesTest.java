/** Terms 1 and DRAWS: each sentence about LAWS, ROOMS, LOUD, HEARS, NEEDS and A MINUTE, where it has an edge. */
public final class HouseEdgesTest {
    private static final int GUEST = 0, WIFE = 1, HAND = 2, COOK = 3, CHIEF = 4, RIVAL = 5;

    public static void main(String[] args) {
        roomsAreRound();
        aThirdOfEar();
        aTenthOfPride();
        payOfNoneAndAll();
        others();
        throughTheWall();
        throughTheWallBelowZero();
        allOfTheNextTogether();
        needsBelowZero();
        cueDivides();
        halfOfAHand();
        hearsJustEnough();
        hearsBelowZero();
        prideHeld();
        prideByWhatWasHeard();
        allAsItBegins();
        minuteIsOneMore();
        sixtyAtOnce();
        zWraps();
        zBelowZero();
        drawnByHowMany();
        belowWrong();
        wrongStopsAndStarts();
        nobodyDrawsNothing();
        Due.end();
    }

    private static HiredClaque alone(int kind, int pride, int ear) {
        HiredClaque x = new HiredClaque();
        x.person(kind, pride, ear, 0);
        return x;
    }

    /** One of EAR 9, that doesn't clap by what it hears here, in room 0; more are added by the tests. */
    private static HiredClaque listener() {
        return alone(GUEST, 50, 9);
    }

    private static int add(HiredClaque x, int kind, int ear, int room) {
        int p = x.person(kind, 0, ear, room);
        x.clap(p, 1);
        return p;
    }

    // ---- ROOMS, LOUD

    private static void roomsAreRound() {
        for (int at = 0; at < 8; at++) {
            for (int from = 0; from < 8; from++) {
                HiredClaque x = new HiredClaque();
                x.set(2, 0);
                x.person(GUEST, 0, 0, at);
                add(x, GUEST, 9, from);
                int apart = Math.min(Math.floorMod(at - from, 8), Math.floorMod(from - at, 8));
                Due.eq("Terms 1: room " + at + " hears room " + from, x.does(0, 2), apart <= 1 ? 1004 : 1000);
            }
        }
    }

    private static void aThirdOfEar() {
        int[] third = {0, 0, 0, 1, 1, 1, 2, 2, 2, 3};
        for (int ear = 0; ear <= 9; ear++) {
            Due.eq("Terms 1: guest of ear " + ear, alone(GUEST, 0, ear).does(0, 0), 1001 + third[ear]);
            Due.eq("Terms 1: wife of ear " + ear, alone(WIFE, 0, ear).does(0, 0), 1002 + third[ear]);
            Due.eq("Terms 1: cook of ear " + ear, alone(COOK, 0, ear).does(0, 0), 1004 + 2 * third[ear]);
            Due.eq("Terms 1: hand of ear " + ear, alone(HAND, 0, ear).does(0, 0), 1003 + third[ear]);
            Due.eq("Terms 1: chief of ear " + ear, alone(CHIEF, 0, ear).does(0, 0), 1003 + third[ear]);
            Due.eq("Terms 1: rival of ear " + ear, alone(RIVAL, 0, ear).does(0, 0), 999 - third[ear]);
        }
    }

    private static void aTenthOfPride() {
        int[] prides = {0, 9, 10, 19, 89, 90, 99};
        int[] tenths = {0, 0, 1, 1, 8, 9, 9};
        for (int i = 0; i < prides.length; i++) {
            Due.eq("Terms 1: a chief of pride " + prides[i], alone(CHIEF, prides[i], 0).does(0, 0), 1003 + tenths[i]);
            Due.eq("Terms 1: a wife of pride " + prides[i], alone(WIFE, prides[i], 5).does(0, 1), 1005 - tenths[i]);
            Due.eq("Terms 1: a cook of pride " + prides[i], alone(COOK, prides[i], 5).does(0, 1), 1007 - tenths[i]);
            Due.eq("Terms 1: a hand has none", alone(HAND, prides[i], 0).does(0, 0), 1003);
            Due.eq("Terms 1: a guest has none", alone(GUEST, prides[i], 5).does(0, 1), 1005);
        }
    }

    private static void payOfNoneAndAll() {
        for (int pay = 0; pay <= 9; pay++) {
            int[] loud = {1001, 1002, 1001 + pay, 1004, 1001 + pay, 999};
            for (int kind = 0; kind < 6; kind++) {
                HiredClaque x = alone(kind, 0, 0);
                x.set(0, pay);
                Due.eq("Terms 1: kind " + kind + " by pay " + pay, x.does(0, 0), loud[kind]);
            }
        }
    }

    // ---- HEARS

    private static void others() {
        HiredClaque x = listener();
        Due.eq("Terms 1: alone and quiet", x.does(0, 2), 1000);
        x.clap(0, 1);
        Due.eq("Terms 1: it doesn't hear itself", x.does(0, 2), 1000);
        x.set(2, 0);
        Due.eq("Terms 1: nor through a wall", x.does(0, 2), 1000);
        int other = add(x, GUEST, 9, 0);
        Due.eq("Terms 1: the other claps", x.does(0, 2), 1004);
        x.clap(other, 0);
        Due.eq("Terms 1: the other doesn't", x.does(0, 2), 1000);
        HiredClaque rival = alone(RIVAL, 0, 9);
        rival.clap(0, 1);
        Due.eq("Terms 1: a rival doesn't hear itself", rival.does(0, 2), 1000);
    }

    private static void throughTheWall() {
        HiredClaque x = listener();
        add(x, GUEST, 9, 1);
        add(x, GUEST, 9, 7);
        add(x, GUEST, 3, 7);
        for (int wall = 0; wall <= 9; wall++) {
            x.set(2, wall);
            Due.eq("Terms 1: ten by " + (wall + 1), x.does(0, 2), 1000 + 10 / (wall + 1));
        }
    }

    private static void throughTheWallBelowZero() {
        HiredClaque x = listener();
        add(x, RIVAL, 9, 1);
        add(x, RIVAL, 6, 7);
        int[] cut = {-7, -3, -2, -1, -1, -1, -1, 0, 0, 0};
        for (int wall = 0; wall <= 9; wall++) {
            x.set(2, wall);
            Due.eq("Terms 1: seven below 0 by " + (wall + 1), x.does(0, 2), 1000 + cut[wall]);
        }
    }

    /** The two next rooms are cut together, but not together with the room itself. */
    private static void allOfTheNextTogether() {
        HiredClaque x = listener();
        add(x, GUEST, 0, 1);
        add(x, GUEST, 0, 7);
        Due.eq("Terms 1: one and one by two", x.does(0, 2), 1001);
        x.set(2, 2);
        Due.eq("Terms 1: one and one by three", x.does(0, 2), 1000);
        add(x, GUEST, 0, 0);
        Due.eq("Terms 1: and one in the room", x.does(0, 2), 1001);
        x.set(2, 0);
        add(x, RIVAL, 3, 7);
        Due.eq("Terms 1: and a rival next door", x.does(0, 2), 1001);
    }

    // ---- NEEDS

    private static void needsBelowZero() {
        Due.eq("Terms 1: wife", alone(WIFE, 99, 0).does(0, 1), 991);
        Due.eq("Terms 1: cook", alone(COOK, 99, 0).does(0, 1), 993);
        Due.eq("Terms 1: a wife needs 0", alone(WIFE, 99, 9).does(0, 1), 1000);
        Due.eq("Terms 1: rival of ear 9", alone(RIVAL, 99, 9).does(0, 1), 1012);
    }

    private static void cueDivides() {
        for (int cue = 1; cue <= 9; cue++) {
            HiredClaque x = alone(HAND, 0, 9);
            x.person(CHIEF, 0, 9, 4);
            x.person(GUEST, 0, 9, 2);
            x.set(1, cue);
            for (int minute = 0; minute <= 19; minute++) {
                boolean cued = minute % cue == 0;
                Due.eq("Terms 1: hand in " + minute + " by " + cue, x.does(0, 1), cued ? 1000 : 1009);
                Due.eq("Terms 1: chief in " + minute + " by " + cue, x.does(1, 1), cued ? 1000 : 1004);
                Due.eq("Terms 1: guest in " + minute + " by " + cue, x.does(2, 1), 1009);
                x.minutes(1);
            }
        }
    }

    private static void halfOfAHand() {
        HiredClaque x = alone(CHIEF, 99, 0);
        x.minutes(1);
        int[] half = {0, 0, 1, 1, 2, 2, 3, 3, 4, 4};
        for (int ear = 0; ear <= 9; ear++) {
            x.mind(0, CHIEF, ear);
            Due.eq("Terms 1: a chief of ear " + ear, x.does(0, 1), 1000 + half[ear]);
            x.mind(0, HAND, ear);
            Due.eq("Terms 1: a hand of ear " + ear, x.does(0, 1), 1000 + ear);
        }
    }

    // ---- A MINUTE

    private static void hearsJustEnough() {
        for (int ear = 0; ear <= 9; ear++) {
            HiredClaque x = alone(GUEST, 0, ear);
            add(x, GUEST, 9, 0);
            x.minutes(1);
            Due.eq("Terms 1: of ear " + ear + " by 4", x.of(0, 4), ear <= 4 ? 1 : 0);
        }
    }

    /** A wife of pride 99 needs 9 below 0; two rivals of 4, and a third, bring it to hear less than that. */
    private static void hearsBelowZero() {
        int[] thirdEar = {-1, 0, 3};
        int[] hears = {-8, -9, -10};
        int[] claps = {1, 1, 0};
        for (int i = 0; i < 3; i++) {
            HiredClaque x = alone(WIFE, 99, 0);
            add(x, RIVAL, 9, 0);
            add(x, RIVAL, 9, 0);
            if (thirdEar[i] >= 0) {
                add(x, RIVAL, thirdEar[i], 0);
            }
            Due.eq("Terms 1: it hears", x.does(0, 2), 1000 + hears[i]);
            x.minutes(1);
            Due.eq("Terms 1: by " + hears[i] + " where it needs -9", x.of(0, 4), claps[i]);
            Due.eq("Terms 1: pride is less, too", x.of(0, 1), 99 + hears[i]);
        }
    }

    private static void prideHeld() {
        int[] prides = {94, 95, 96, 99};
        int[] then = {98, 99, 99, 99};
        int[] less = {3, 4, 5, 0};
        int[] thenLess = {0, 0, 1, 0};
        for (int i = 0; i < 4; i++) {
            HiredClaque up = alone(GUEST, prides[i], 9);
            add(up, GUEST, 9, 0);
            up.minutes(1);
            Due.eq("Terms 1: pride " + prides[i] + " by 4", up.of(0, 1), then[i]);
            HiredClaque down = alone(GUEST, less[i], 9);
            add(down, RIVAL, 9, 0);
            down.minutes(1);
            Due.eq("Terms 1: pride " + less[i] + " by -4", down.of(0, 1), thenLess[i]);
        }
    }

    /** PRIDE grows whether one claps or not, and by what all were as the minute began. */
    private static void prideByWhatWasHeard() {
        HiredClaque x = alone(GUEST, 10, 9);
        x.person(GUEST, 20, 0, 0);
        x.clap(0, 1);
        x.minutes(1);
        Due.eq("Terms 1: nothing heard", x.of(0, 1), 10);
        Due.eq("Terms 1: four heard", x.of(1, 1), 24);
        Due.eq("Terms 1: they change", x.state(1), 2);
        x.minutes(1);
        Due.eq("Terms 1: one heard", x.of(0, 1), 11);
        Due.eq("Terms 1: nothing heard", x.of(1, 1), 24);
    }

    /** Neither the pride nor the clapping of those before it in number counts as it is then. */
    private static void allAsItBegins() {
        HiredClaque x = alone(CHIEF, 9, 9);
        x.person(GUEST, 0, 3, 0);
        x.set(0, 0);
        x.clap(0, 1);
        x.clap(1, 1);
        x.minutes(1);
        Due.eq("Terms 1: the chief's pride", x.of(0, 1), 11);
        Due.eq("Terms 1: the guest heard a chief of pride 9", x.of(1, 1), 4);
        HiredClaque y = alone(GUEST, 0, 0);
        y.person(GUEST, 0, 1, 0);
        y.person(GUEST, 0, 1, 1);
        y.set(2, 0);
        y.minutes(1);
        Due.eq("Terms 1: the first alone", y.state(1), 1);
        y.minutes(1);
        Due.eq("Terms 1: the others then", y.state(1), 7);
    }

    private static void minuteIsOneMore() {
        HiredClaque x = new HiredClaque();
        Due.eq("Terms 1: at first", x.state(0), 0);
        for (int n = 1; n <= 60; n++) {
            int before = x.state(0);
            x.minutes(n);
            Due.eq("14 " + n + " minutes", x.state(0), before + n);
        }
        x.minute();
        Due.eq("16 one by draws", x.state(0), 1831);
        x.seed(1);
        x.stir(30);
        x.clapping(60);
        Due.eq("17 none by stir", x.state(0), 1831);
    }

    private static void sixtyAtOnce() {
        HiredClaque once = RandomHouse.of(7);
        HiredClaque often = RandomHouse.of(7);
        int then = 0;
        for (int i = 0; i < 60; i++) {
            then = often.minutes(1);
        }
        Due.eq("14 sixty at once", once.minutes(60), then);
        for (int what = 0; what < 6; what++) {
            Due.eq("14 sixty at once, " + what, once.state(what), often.state(what));
        }
    }

    // ---- DRAWS

    private static void zWraps() {
        int[] seeds = {0, 1, -1, Integer.MAX_VALUE, Integer.MIN_VALUE, 2, -2, 1 << 16, -(1 << 16), 123456789};
        for (int seed : seeds) {
            HiredClaque x = alone(GUEST, 0, 9);
            x.seed(seed);
            x.minute();
            long z = seed;
            for (int draw = 0; draw < 2; draw++) {
                z = z * 1103515245L + 12345L & 0xffffffffL;
            }
            Due.eq("Terms 2: z from " + seed, x.seed(0) & 0xffffffffL, z);
        }
    }

    /** z >>> 16 is drawn, also where z is below 0: it is never below 0 itself. */
    private static void zBelowZero() {
        int below = 0;
        for (int seed = -40; seed < 40; seed++) {
            int first = seed * 1103515245 + 12345;
            int second = first * 1103515245 + 12345;
            HiredClaque x = new HiredClaque();
            for (int p = 0; p < 3; p++) {
                x.person(GUEST, 0, 9, 3 * p);
            }
            x.set(3, 99);
            x.set(2, 0);
            x.move(1, 4);
            x.move(2, 2);
            x.person(GUEST, 0, 1, 0);
            x.person(GUEST, 0, 1, 4);
            x.person(GUEST, 0, 1, 2);
            x.seed(seed);
            x.minute();
            int drawn = (first >>> 16) % 6;
            boolean wrong = (second >>> 16) % 100 < 99;
            int want = !wrong ? 0 : drawn < 3 ? 8 << drawn : 0;
            Due.eq("Terms 2: wrong by seed " + seed, x.state(1), want);
            Due.eq("Terms 2: who was heard by seed " + seed, x.state(2), !wrong ? 0 : drawn < 3 ? 4 : 1);
            below += first < 0 || second < 0 ? 1 : 0;
        }
        Due.eq("Terms 2: some z were below 0", below > 20 ? 1 : 0, 1);
    }

    private static void drawnByHowMany() {
        for (int people = 1; people <= 8; people++) {
            for (int seed = 0; seed < 24; seed++) {
                HiredClaque x = new HiredClaque();
                for (int p = 0; p < people; p++) {
                    x.person(GUEST, 0, 9, p);
                }
                x.set(2, 0);
                x.set(3, 99);
                x.seed(seed);
                x.minute();
                int first = seed * 1103515245 + 12345;
                int second = first * 1103515245 + 12345;
                int drawn = (first >>> 16) % people;
                boolean wrong = (second >>> 16) % 100 < 99;
                for (int p = 0; p < people; p++) {
                    int apart = Math.floorMod(p - drawn, 8);
                    int want = wrong && (apart == 1 || apart == 7) ? 4 : 0;
                    Due.eq("Terms 2: pride of " + p + " of " + people + " by seed " + seed, x.of(p, 1), want);
                }
            }
        }
    }

    /** By seed 1 the second draw leaves 26 by 100. */
    private static void belowWrong() {
        int[] wrongs = {0, 25, 26, 27, 99};
        int[] loud = {0, 0, 0, 4, 4};
        for (int i = 0; i < wrongs.length; i++) {
            HiredClaque x = alone(GUEST, 0, 9);
            x.person(GUEST, 0, 9, 0);
            x.set(3, wrongs[i]);
            x.minute();
            Due.eq("Terms 2: 26 by wrong " + wrongs[i], x.state(2), loud[i]);
        }
    }

    private static void wrongStopsAndStarts() {
        HiredClaque x = alone(GUEST, 0, 9);
        x.person(GUEST, 0, 4, 0);
        x.set(3, 27);
        x.clap(0, 1);
        Due.eq("Terms 2: it clapped, and doesn't", x.minute(), 0);
        x.seed(1);
        Due.eq("Terms 2: it didn't, and claps", x.minute(), 1);
    }

    private static void nobodyDrawsNothing() {
        HiredClaque x = new HiredClaque();
        x.set(3, 99);
        x.seed(-5);
        Due.eq("Terms 2: nobody", x.minute(), 0);
        Due.eq("Terms 2: nobody stirs", x.stir(30), 0);
        Due.eq("Terms 2: z is as it was", x.seed(1), -5);
        Due.eq("Terms 2: but a minute passed", x.state(0), 1);
    }
}
