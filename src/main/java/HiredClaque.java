/** The claque in private life: who claps when, in rooms round, as ../shared/DOC.md tells it. */
public final class HiredClaque {
    public static final int BAD = -1, FULL = -2, NONE = -3;

    private static final int NO_ROW = -9, NOTHING = -11, OUTSIDE = -12, ANOTHER = -13, BELOW = -14;
    private static final int PARTED_BY_ZERO = -15;

    private static final int PAY = 0, CUE = 1, WALL = 2, WRONG = 3, LAWS = 4;
    private static final int[] LAW_AT_FIRST = {2, 3, 1, 20};
    private static final int[] LAW_LEAST = {0, 1, 0, 0};
    private static final int[] LAW_MOST = {9, 9, 9, 99};

    private static final int GUEST = 0, WIFE = 1, HAND = 2, COOK = 3, CHIEF = 4, RIVAL = 5;
    private static final int[] KIND_ABOVE = {-1, GUEST, GUEST, WIFE, HAND, GUEST};

    private static final int PEOPLE_MOST = 8, ROOMS = 8, PRIDE_MOST = 99, EAR_MOST = 9;
    private static final int TAPE_MOST = 200, TRIED_MOST = 60, SOUGHT_MOST = 20, STIRS_MOST = 30;
    private static final int ODDS_MOST = 8, HOPE_MOST = 99;
    private static final int ROWS_MOST = 10, ROW_PARTS = 3;
    private static final int PLACES = 4, ITEMS_MOST = 40, BYTES = 0, LONGS = 3, TAKEN_FOR_ROWS = 10;
    private static final int NOBODY = -1, ANY = -1;

    private final House now = new House();
    private final House tried = new House();
    private final House kept = new House();
    private boolean keeps = false;

    private final Tape tape = new Tape();
    private final Stage stage = new Stage();

    private final int[] rows = new int[ROWS_MOST * ROW_PARTS];
    private int rowCount = 0;

    private final Sheet[] sheets = new Sheet[PLACES];
    private final Sheet[] shelvedRows = new Sheet[PLACES];
    private final int[] shelvedPeople = {NOBODY, NOBODY, NOBODY, NOBODY};

    public HiredClaque() {
    }

    // ---- THE TAPE

    public int feed(long eight, int n) {
        if (!within(n, 1, 8)) {
            return BAD;
        }
        if (tape.length + n > TAPE_MOST) {
            return FULL;
        }
        tape.take(eight, n);
        return tape.length;
    }

    public int opera() {
        tried.clear();
        tried.z = now.z;
        int fault = tape.readInto(tried);
        tape.length = 0;
        if (fault != Tape.NO_FAULT) {
            return -100 - fault;
        }
        now.become(tried);
        rowCount = 0;
        return now.people;
    }

    // ---- LAWS and PEOPLE

    public int set(int law, int v) {
        if (!isLaw(law) || !within(v, LAW_LEAST[law], LAW_MOST[law])) {
            return BAD;
        }
        int was = now.law[law];
        now.law[law] = v;
        return was;
    }

    public int lawOf(int law) {
        return isLaw(law) ? now.law[law] : BAD;
    }

    public int person(int kind, int pride, int ear, int room) {
        if (!isKind(kind) || !isPride(pride) || !isEar(ear) || !isRoom(room)) {
            return BAD;
        }
        if (now.people >= PEOPLE_MOST) {
            return FULL;
        }
        now.admit(kind, pride, ear, room, false);
        return now.people - 1;
    }

    public int of(int person, int what) {
        if (!now.has(person)) {
            return BAD;
        }
        switch (what) {
            case 0: return now.kind[person];
            case 1: return now.pride[person];
            case 2: return now.ear[person];
            case 3: return now.room[person];
            case 4: return now.doesClap(person) ? 1 : 0;
            default: return BAD;
        }
    }

    public int does(int person, int what) {
        if (!now.has(person)) {
            return BAD;
        }
        switch (what) {
            case 0: return 1000 + now.loud(person);
            case 1: return 1000 + now.needs(person);
            case 2: return 1000 + now.hears(person);
            default: return BAD;
        }
    }

    public int mind(int person, int kind, int ear) {
        if (!now.has(person) || !isKind(kind) || !isEar(ear)) {
            return BAD;
        }
        int was = now.kind[person];
        now.kind[person] = kind;
        now.ear[person] = ear;
        return was;
    }

    public int pride(int person, int v) {
        if (!now.has(person) || !isPride(v)) {
            return BAD;
        }
        int was = now.pride[person];
        now.pride[person] = v;
        return was;
    }

    public int move(int person, int room) {
        if (!now.has(person) || !isRoom(room)) {
            return BAD;
        }
        int was = now.room[person];
        now.room[person] = room;
        return was;
    }

    public int clap(int person, int v) {
        if (!now.has(person) || !within(v, 0, 1)) {
            return BAD;
        }
        int was = now.doesClap(person) ? 1 : 0;
        now.letClap(person, v == 1);
        return was;
    }

    public int room(int room, int what) {
        if (!isRoom(room) || !within(what, 0, 1)) {
            return BAD;
        }
        int inside = now.inside(room);
        return what == 0 ? inside : inside & now.claps;
    }

    // ---- MINUTES

    public int minutes(int n) {
        if (!within(n, 1, TRIED_MOST)) {
            return BAD;
        }
        now.pass(n);
        return Integer.bitCount(now.claps);
    }

    public int seed(int v) {
        int was = now.z;
        now.z = v;
        return was;
    }

    public int minute() {
        now.passByDraws();
        return Integer.bitCount(now.claps);
    }

    public int stir(int n) {
        if (!within(n, 1, STIRS_MOST)) {
            return BAD;
        }
        tryFromNow();
        tried.pass(1);
        int without = Integer.bitCount(tried.claps);
        int z = now.z;
        int more = 0;
        for (int i = 0; i < n; i++) {
            tryFromNow();
            tried.z = z;
            tried.passByDraws();
            z = tried.z;
            if (Integer.bitCount(tried.claps) > without) {
                more++;
            }
        }
        return more;
    }

    public int state(int what) {
        switch (what) {
            case 0: return now.minute;
            case 1: return now.claps;
            case 2: return now.sum(now.pride);
            case 3: return 1000 + now.loudOfAll();
            case 4: return now.roomsTaken();
            case 5: return now.sum(now.ear);
            default: return BAD;
        }
    }

    // ---- What is TRIED

    public int clapping(int n) {
        if (!within(n, 0, TRIED_MOST)) {
            return BAD;
        }
        tryFromNow();
        tried.pass(n);
        return tried.claps;
    }

    public int joins(int person) {
        if (!now.has(person)) {
            return BAD;
        }
        return firstBehind(0, 1 << person, 1 << person);
    }

    public int all() {
        return firstBehind(0, now.everybody(), now.everybody());
    }

    public int hush() {
        return firstBehind(0, now.everybody(), 0);
    }

    public int roomFor(int person, int n) {
        return proudestBy(tried.room, ROOMS, person, n);
    }

    public int kindFor(int person, int n) {
        return proudestBy(tried.kind, RIVAL + 1, person, n);
    }

    public int earFor(int person, int n) {
        return proudestBy(tried.ear, EAR_MOST + 1, person, n);
    }

    public int begunFor(int person, int n) {
        if (!now.has(person) || !within(n, 1, SOUGHT_MOST)) {
            return BAD;
        }
        return fewest(person, n);
    }

    public int hiredFor(int n) {
        return within(n, 1, SOUGHT_MOST) ? fewest(NOBODY, n) : BAD;
    }

    public int round() {
        return firstBehind(1, now.everybody(), now.claps);
    }

    public int fits(int sheet, int person, int what) {
        if (!isPlace(sheet) || !now.has(person) || !within(what, 0, 1)) {
            return BAD;
        }
        Sheet told = sheets[sheet];
        if (told == null) {
            return NOTHING;
        }
        int howMany = 0;
        int least = NONE;
        for (int ear = EAR_MOST; ear >= 0; ear--) {
            if (earFits(person, ear, told)) {
                howMany++;
                least = ear;
            }
        }
        return what == 0 ? howMany : least;
    }

    private void tryFromNow() {
        tried.become(now);
    }

    /** Behind how many MINUTES, from least on, those of the set that clap are first just the wanted ones. */
    private int firstBehind(int least, int set, int wanted) {
        tryFromNow();
        tried.pass(least);
        for (int n = least; n <= TRIED_MOST; n++) {
            if ((tried.claps & set) == wanted) {
                return n;
            }
            tried.pass(1);
        }
        return NONE;
    }

    /** Which of the choices, tried as what one has now, brings it the greatest PRIDE. */
    private int proudestBy(int[] triedOfEach, int choices, int person, int n) {
        if (!now.has(person) || person >= triedOfEach.length || !within(n, 1, SOUGHT_MOST)) {
            return BAD;
        }
        int best = 0;
        int most = -1;
        for (int choice = 0; choice < choices; choice++) {
            tryFromNow();
            triedOfEach[person] = choice;
            tried.pass(n);
            if (tried.pride[person] > most) {
                most = tried.pride[person];
                best = choice;
            }
        }
        return best;
    }

    /** The fewest that bring one to clap by clapping, or, for NOBODY, all of them by being hired. */
    private int fewest(int person, int n) {
        int everybody = now.everybody();
        for (int size = 0; size <= now.people; size++) {
            for (int set = 0; set <= everybody; set++) {
                if (Integer.bitCount(set) == size
                        && (person == NOBODY ? allClapIfHired(set, n) : clapsIfBegun(person, set, n))) {
                    return set;
                }
            }
        }
        return NONE;
    }

    private boolean clapsIfBegun(int person, int set, int n) {
        if ((set & 1 << person) != 0) {
            return false;
        }
        tryFromNow();
        tried.claps = set;
        tried.pass(n);
        return tried.doesClap(person);
    }

    private boolean allClapIfHired(int set, int n) {
        tryFromNow();
        for (int p = 0; p < tried.people; p++) {
            if ((set & 1 << p) != 0) {
                tried.kind[p] = HAND;
            }
        }
        tried.pass(n);
        return tried.claps == tried.everybody();
    }

    private boolean earFits(int person, int ear, Sheet told) {
        tryFromNow();
        tried.ear[person] = ear;
        for (int i = 0; i < told.items.length; i++) {
            tried.pass(1);
            long asked = told.items[i];
            if (asked != ANY && asked != Integer.bitCount(tried.claps)) {
                return false;
            }
        }
        return true;
    }

    // ---- Odds

    public long odds(int n, int k, int part) {
        if (!within(n, 0, ODDS_MOST) || !within(k, 0, n) || !within(part, 0, 1)) {
            return BAD;
        }
        long above = 1;
        long below = 1;
        for (int i = 1; i <= k; i++) {
            above = above * (n - k + i) / i;
        }
        for (int i = 0; i < n; i++) {
            above = above * (i < k ? now.law[WRONG] : 100 - now.law[WRONG]);
            below = below * 100;
        }
        return partOf(above, below, part);
    }

    public long hope(int n, int part) {
        if (!within(n, 0, HOPE_MOST) || !within(part, 0, 1)) {
            return BAD;
        }
        return partOf((long) n * now.law[WRONG], 100, part);
    }

    private static long partOf(long above, long below, int part) {
        long divisor = commonDivisor(above, below);
        if (divisor == 0) {
            return 0;
        }
        return part == 0 ? above / divisor : below / divisor;
    }

    private static long commonDivisor(long one, long other) {
        long a = one;
        long b = other;
        // 100 steps are more than Euclid needs for any two longs
        for (int step = 0; step < 100 && b != 0; step++) {
            long left = a % b;
            a = b;
            b = left;
        }
        return a;
    }

    // ---- ROWS

    public int prove(int person, int n) {
        if (!now.has(person) || !within(n, 1, ROWS_MOST)) {
            return BAD;
        }
        tryFromNow();
        for (int i = 0; i < n; i++) {
            tried.pass(1);
            for (int what = 0; what < ROW_PARTS; what++) {
                rows[i * ROW_PARTS + what] = rowPartOf(person, what);
            }
        }
        rowCount = n;
        return n;
    }

    public int row(int i, int what) {
        return isRowPart(i, what) ? rows[i * ROW_PARTS + what] : NO_ROW;
    }

    public int alterRow(int i, int what, int v) {
        if (!isRowPart(i, what)) {
            return NO_ROW;
        }
        int was = rows[i * ROW_PARTS + what];
        rows[i * ROW_PARTS + what] = v;
        return was;
    }

    public int judge(int person) {
        if (!now.has(person)) {
            return BAD;
        }
        tryFromNow();
        for (int i = 0; i < rowCount; i++) {
            tried.pass(1);
            for (int what = 0; what < ROW_PARTS; what++) {
                if (rows[i * ROW_PARTS + what] != rowPartOf(person, what)) {
                    return i + 1;
                }
            }
        }
        return 0;
    }

    private int rowPartOf(int person, int what) {
        switch (what) {
            case 0: return tried.pride[person];
            case 1: return tried.doesClap(person) ? 1 : 0;
            default: return tried.claps;
        }
    }

    private boolean isRowPart(int i, int what) {
        return within(i, 0, rowCount - 1) && within(what, 0, ROW_PARTS - 1);
    }

    // ---- SHEETS

    public int minds(int sheet, int i, int person, int n) {
        if (!isPlace(sheet) || !now.has(person) || !within(n, 0, PEOPLE_MOST) || person + n > now.people) {
            return BAD;
        }
        Sheet from = sheets[sheet];
        if (from == null) {
            return NOTHING;
        }
        if (from.sort != BYTES) {
            return ANOTHER;
        }
        int length = from.items.length;
        if (!within(i, 0, length) || n > length - i) {
            return OUTSIDE;
        }
        for (int k = 0; k < n; k++) {
            now.pride[person + k] = heldPride((int) from.items[i + k]);
        }
        return n;
    }

    public int sheet(int sheet, int sort, int n) {
        if (!isPlace(sheet) || !within(sort, -1, LONGS)) {
            return BAD;
        }
        if (sort == -1) {
            sheets[sheet] = null;
            return 1;
        }
        if (n > ITEMS_MOST) {
            return BAD;
        }
        if (n < 0) {
            return BELOW;
        }
        sheets[sheet] = new Sheet(sort, new long[n]);
        return 1;
    }

    public int put(int sheet, int i, int v) {
        if (!isPlace(sheet)) {
            return BAD;
        }
        Sheet into = sheets[sheet];
        if (into == null) {
            return NOTHING;
        }
        if (!within(i, 0, into.items.length - 1)) {
            return OUTSIDE;
        }
        into.items[i] = into.narrowed(v);
        return 1;
    }

    public int item(int sheet, int sort, int i) {
        if (!isPlace(sheet) || !within(sort, BYTES, LONGS)) {
            return BAD;
        }
        Sheet from = sheets[sheet];
        if (from == null) {
            return NOTHING;
        }
        if (from.sort != sort) {
            return ANOTHER;
        }
        if (!within(i, 0, from.items.length - 1)) {
            return OUTSIDE;
        }
        return (int) from.items[i];
    }

    // ---- SHELVES and ACTS

    public int shelf(int shelf, int what, int n) {
        if (!isPlace(shelf) || !isShelved(what, n)) {
            return BAD;
        }
        shelvedPeople[shelf] = what == 0 ? n : NOBODY;
        // the row itself is held: the SHEET may become another row later
        shelvedRows[shelf] = what == 1 && isPlace(n) ? sheets[n] : null;
        return 1;
    }

    public int taken(int shelf, int as) {
        boolean asRow = within(as - TAKEN_FOR_ROWS, BYTES, LONGS);
        if (!isPlace(shelf) || !asRow && !isKind(as)) {
            return BAD;
        }
        Sheet held = shelvedRows[shelf];
        int person = shelvedPeople[shelf];
        if (held != null) {
            return asRow && held.sort == as - TAKEN_FOR_ROWS ? held.items.length : ANOTHER;
        }
        if (!now.has(person)) {
            return NOTHING;
        }
        return isUnder(now.kind[person], as) ? person : ANOTHER;
    }

    public int act(int shelf, int act, int x) {
        stage.clear();
        if (!isPlace(shelf) || !within(act, Stage.COUGHS, Stage.RISES)) {
            return 0;
        }
        int person = shelvedPeople[shelf];
        if (!now.has(person)) {
            return 0;
        }
        return stage.play(now.kind[person], person, now.ear[person], act, x);
    }

    public int trace(int i) {
        return within(i, 0, stage.begun - 1) ? stage.bodies[i] : NONE;
    }

    private boolean isShelved(int what, int n) {
        switch (what) {
            case 0: return now.has(n);
            case 1: return isPlace(n);
            case 2: return true;
            default: return false;
        }
    }

    private static boolean isUnder(int kind, int above) {
        int k = kind;
        for (int step = 0; step <= RIVAL && isKind(k); step++) {
            if (k == above) {
                return true;
            }
            k = KIND_ABOVE[k];
        }
        return false;
    }

    // ---- The whole

    public int many(int what) {
        switch (what) {
            case 0: return now.people;
            case 1: return Integer.bitCount(now.claps);
            case 2: return Integer.bitCount(now.roomsTaken());
            case 3: return now.proudest();
            case 4: return rowCount;
            case 5: return tape.length;
            case 6: return stage.begun;
            default: return BAD;
        }
    }

    public int keep() {
        kept.become(now);
        keeps = true;
        return 1;
    }

    public int again() {
        if (!keeps) {
            return NONE;
        }
        now.become(kept);
        return now.people;
    }

    // ---- What a number may be

    private static boolean within(int v, int least, int most) {
        return least <= v && v <= most;
    }

    private static boolean isLaw(int v) {
        return within(v, 0, LAWS - 1);
    }

    private static boolean isKind(int v) {
        return within(v, GUEST, RIVAL);
    }

    private static boolean isPride(int v) {
        return within(v, 0, PRIDE_MOST);
    }

    private static boolean isEar(int v) {
        return within(v, 0, EAR_MOST);
    }

    private static boolean isRoom(int v) {
        return within(v, 0, ROOMS - 1);
    }

    private static boolean isPlace(int v) {
        return within(v, 0, PLACES - 1);
    }

    private static int heldPride(int v) {
        return Math.max(0, Math.min(PRIDE_MOST, v));
    }

    /** LAWS, MINUTE, PEOPLE and z: what is kept, and what is tried. */
    private static final class House {
        final int[] law = new int[LAWS];
        final int[] kind = new int[PEOPLE_MOST];
        final int[] pride = new int[PEOPLE_MOST];
        final int[] ear = new int[PEOPLE_MOST];
        final int[] room = new int[PEOPLE_MOST];
        int people;
        int claps;
        int minute;
        int z;
        // made once and used again by every MINUTE
        private final int[] loudIn = new int[ROOMS];
        private final int[] heard = new int[PEOPLE_MOST];

        House() {
            z = 1;
            clear();
        }

        /** All as at first, but for z. */
        void clear() {
            System.arraycopy(LAW_AT_FIRST, 0, law, 0, LAWS);
            people = 0;
            claps = 0;
            minute = 0;
        }

        void become(House other) {
            System.arraycopy(other.law, 0, law, 0, LAWS);
            System.arraycopy(other.kind, 0, kind, 0, PEOPLE_MOST);
            System.arraycopy(other.pride, 0, pride, 0, PEOPLE_MOST);
            System.arraycopy(other.ear, 0, ear, 0, PEOPLE_MOST);
            System.arraycopy(other.room, 0, room, 0, PEOPLE_MOST);
            people = other.people;
            claps = other.claps;
            minute = other.minute;
            z = other.z;
        }

        boolean has(int person) {
            return within(person, 0, people - 1);
        }

        void admit(int itsKind, int itsPride, int itsEar, int itsRoom, boolean itClaps) {
            if (people >= PEOPLE_MOST) {
                return;
            }
            kind[people] = itsKind;
            pride[people] = itsPride;
            ear[people] = itsEar;
            room[people] = itsRoom;
            letClap(people, itClaps);
            people++;
        }

        boolean doesClap(int person) {
            return (claps & 1 << person) != 0;
        }

        void letClap(int person, boolean itClaps) {
            claps = itClaps ? claps | 1 << person : claps & ~(1 << person);
        }

        int everybody() {
            return (1 << people) - 1;
        }

        int inside(int oneRoom) {
            int set = 0;
            for (int p = 0; p < people; p++) {
                if (room[p] == oneRoom) {
                    set |= 1 << p;
                }
            }
            return set;
        }

        int roomsTaken() {
            int set = 0;
            for (int p = 0; p < people; p++) {
                set |= 1 << room[p];
            }
            return set;
        }

        int proudest() {
            int howMany = 0;
            for (int p = 0; p < people; p++) {
                if (pride[p] == PRIDE_MOST) {
                    howMany++;
                }
            }
            return howMany;
        }

        int sum(int[] ofEach) {
            int together = 0;
            for (int p = 0; p < people && p < ofEach.length; p++) {
                together += ofEach[p];
            }
            return together;
        }

        int loud(int p) {
            int asGuest = 1 + ear[p] / 3;
            switch (kind[p]) {
                case WIFE: return asGuest + 1;
                case COOK: return (asGuest + 1) * 2;
                case HAND: return asGuest + law[PAY];
                case CHIEF: return asGuest + law[PAY] + pride[p] / 10;
                case RIVAL: return 0 - asGuest;
                default: return asGuest;
            }
        }

        int loudOfAll() {
            int together = 0;
            for (int p = 0; p < people; p++) {
                if (doesClap(p)) {
                    together += loud(p);
                }
            }
            return together;
        }

        int needs(int p) {
            int asGuest = ear[p];
            int asWife = asGuest - pride[p] / 10;
            int asHand = isCued() ? 0 : asGuest;
            switch (kind[p]) {
                case WIFE: return asWife;
                case COOK: return asWife + 2;
                case HAND: return asHand;
                case CHIEF: return asHand / 2;
                case RIVAL: return asGuest + 3;
                default: return asGuest;
            }
        }

        private boolean isCued() {
            int cue = law[CUE];
            return cue != 0 && minute % cue == 0;
        }

        int hears(int person) {
            listen();
            return heard[person];
        }

        /** What each hears now; the rooms are summed up first, as each of them is heard in three. */
        private void listen() {
            for (int r = 0; r < ROOMS; r++) {
                loudIn[r] = 0;
            }
            for (int p = 0; p < people; p++) {
                if (doesClap(p)) {
                    loudIn[around(room[p])] += loud(p);
                }
            }
            for (int p = 0; p < people; p++) {
                int here = loudIn[around(room[p])] - (doesClap(p) ? loud(p) : 0);
                int beside = loudIn[around(room[p] + 1)] + loudIn[around(room[p] - 1)];
                heard[p] = here + throughWall(beside);
            }
        }

        private int throughWall(int loud) {
            int thick = law[WALL] + 1;
            return thick == 0 ? 0 : loud / thick;
        }

        private static int around(int r) {
            return r & ROOMS - 1;
        }

        void pass(int n) {
            for (int i = 0; i < n; i++) {
                passOne();
            }
        }

        private void passOne() {
            listen();
            int clapThen = 0;
            for (int p = 0; p < people; p++) {
                // what it needs is by its pride as the minute begins
                if (heard[p] >= needs(p)) {
                    clapThen |= 1 << p;
                }
                pride[p] = heldPride(pride[p] + heard[p]);
            }
            claps = clapThen;
            minute++;
        }

        void passByDraws() {
            if (people > 0) {
                int drawn = draw() % people;
                if (draw() % 100 < law[WRONG]) {
                    letClap(drawn, !doesClap(drawn));
                }
            }
            passOne();
        }

        private int draw() {
            z = z * 1103515245 + 12345;
            return z >>> 16;
        }
    }

    /** THE TAPE, read as a TEXT by one token after another. */
    private static final class Tape {
        static final int NO_FAULT = -1;
        private static final int END = 0, NAME = 1, NUMBER = 2, SIGN = 3;
        private static final int NOT_AS_TOLD = -1, DIGITS_MOST = 3;

        int length = 0;
        private final byte[] bytes = new byte[TAPE_MOST];
        // the token at hand, and where it begins and ends
        private int sort = END;
        private int start = 0;
        private int end = 0;

        void take(long eight, int n) {
            for (int i = 0; i < n && length < TAPE_MOST; i++) {
                bytes[length] = (byte) (eight >>> 8 * i);
                length++;
            }
        }

        /** The FAULT, or NO_FAULT: then the house is as the TEXT tells. */
        int readInto(House house) {
            end = 0;
            next();
            for (int told = 0; told < TAPE_MOST && sort != END; told++) {
                if (!readOne(house)) {
                    return start;
                }
            }
            return NO_FAULT;
        }

        private boolean readOne(House house) {
            int kind = kindNamed();
            boolean right = kind == NOT_AS_TOLD ? readLaw(house) : readPerson(house, kind);
            return right && takeSemicolon();
        }

        private boolean readPerson(House house, int kind) {
            if (house.people >= PEOPLE_MOST) {
                return false;
            }
            next();
            if (!takeName("in")) {
                return false;
            }
            int room = takeNumber(0, ROOMS - 1);
            if (room == NOT_AS_TOLD) {
                return false;
            }
            int pride = takeName("pride") ? takeNumber(0, PRIDE_MOST) : 0;
            if (pride == NOT_AS_TOLD) {
                return false;
            }
            int ear = takeName("ear") ? takeNumber(0, EAR_MOST) : 3;
            if (ear == NOT_AS_TOLD) {
                return false;
            }
            house.admit(kind, pride, ear, room, takeName("claps"));
            return true;
        }

        private boolean readLaw(House house) {
            int law = lawNamed();
            if (!isLaw(law)) {
                return false;
            }
            next();
            int v = takeNumber(LAW_LEAST[law], LAW_MOST[law]);
            if (v == NOT_AS_TOLD) {
                return false;
            }
            house.law[law] = v;
            return true;
        }

        private int kindNamed() {
            for (int kind = GUEST; kind <= RIVAL; kind++) {
                if (isNamed(nameOfKind(kind))) {
                    return kind;
                }
            }
            return NOT_AS_TOLD;
        }

        private static String nameOfKind(int kind) {
            switch (kind) {
                case WIFE: return "wife";
                case HAND: return "hand";
                case COOK: return "cook";
                case CHIEF: return "chief";
                case RIVAL: return "rival";
                default: return "guest";
            }
        }

        private int lawNamed() {
            for (int law = 0; law < LAWS; law++) {
                if (isNamed(nameOfLaw(law))) {
                    return law;
                }
            }
            return NOT_AS_TOLD;
        }

        private static String nameOfLaw(int law) {
            switch (law) {
                case CUE: return "cue";
                case WALL: return "wall";
                case WRONG: return "wrong";
                default: return "pay";
            }
        }

        private boolean takeName(String name) {
            if (!isNamed(name)) {
                return false;
            }
            next();
            return true;
        }

        private boolean isNamed(String name) {
            if (sort != NAME || end - start != name.length()) {
                return false;
            }
            for (int i = 0; i < name.length(); i++) {
                if (bytes[start + i] != name.charAt(i)) {
                    return false;
                }
            }
            return true;
        }

        private int takeNumber(int least, int most) {
            if (sort != NUMBER || end - start > DIGITS_MOST) {
                return NOT_AS_TOLD;
            }
            int v = 0;
            for (int i = start; i < end; i++) {
                v = v * 10 + bytes[i] - '0';
            }
            if (!within(v, least, most)) {
                return NOT_AS_TOLD;
            }
            next();
            return v;
        }

        private boolean takeSemicolon() {
            if (sort != SIGN || bytes[start] != ';') {
                return false;
            }
            next();
            return true;
        }

        private void next() {
            start = end;
            while (start < length && bytes[start] == ' ') {
                start++;
            }
            end = start;
            sort = sortAt(start);
            if (sort == SIGN) {
                end++;
                return;
            }
            while (end < length && sortAt(end) == sort) {
                end++;
            }
        }

        private int sortAt(int place) {
            if (place >= length) {
                return END;
            }
            byte b = bytes[place];
            if ('a' <= b && b <= 'z') {
                return NAME;
            }
            return '0' <= b && b <= '9' ? NUMBER : SIGN;
        }
    }

    /** ACTS of one thing: its bodies run one another, and THE TRACE keeps the first that began. */
    private static final class Stage {
        static final int COUGHS = 0, LAUGHS = 1, PARTS = 2, RISES = 3;
        private static final int TRACE_MOST = 30, ACTS = 4;
        // the deepest act, a chief's rises, runs seven bodies in one another
        private static final int DEEPEST = 12;
        // by kind, then act: the body of the kind or of the nearest kind above it that has one
        private static final int[] BODY = {
            10, 11, 12, 13,
            10, 20, 12, 13,
            30, 11, 12, 31,
            51, 20, 50, 13,
            40, 41, 12, 31,
            10, 11, 61, 60,
        };

        final int[] bodies = new int[TRACE_MOST];
        int begun = 0;
        private int kind = GUEST;
        private int number = 0;
        private int ear = 0;
        private boolean parted = false;

        void clear() {
            begun = 0;
            parted = false;
        }

        int play(int itsKind, int itsNumber, int itsEar, int act, int x) {
            kind = itsKind;
            number = itsNumber;
            ear = itsEar;
            int answer = run(itsKind, act, x, 1);
            return parted ? PARTED_BY_ZERO : answer;
        }

        /** The act as a thing of the kind `as` does it: `kind` for its own act, the one above for super's. */
        private int run(int as, int act, int x, int depth) {
            // once it is parted by 0, no further body begins
            if (parted || depth > DEEPEST) {
                return 0;
            }
            int body = bodyOf(as, act);
            note(body);
            int d = depth + 1;
            switch (body) {
                case 10: return x - number * 7;
                case 11: return run(kind, COUGHS, x, d) * 2 + ear;
                case 12: return part(x);
                case 13: return run(kind, LAUGHS, x, d) ^ 90;
                case 20: return run(GUEST, LAUGHS, x, d) - 8;
                case 30: return run(GUEST, COUGHS, x, d) ^ 1;
                case 31: return run(GUEST, RISES, x, d) - run(kind, PARTS, number, d);
                case 40: return 0 - run(HAND, COUGHS, x, d);
                case 41: return run(HAND, LAUGHS, x, d) + run(kind, COUGHS, ear, d);
                case 50: return run(WIFE, PARTS, x + ear, d) - number;
                case 51: return run(WIFE, COUGHS, x, d) * 3;
                case 60: return 5 - run(GUEST, RISES, x, d);
                case 61: return run(GUEST, PARTS, x, d) ^ run(kind, COUGHS, number, d);
                default: return 0;
            }
        }

        private int part(int x) {
            int by = ear - number;
            if (by == 0) {
                parted = true;
                return 0;
            }
            return x / by;
        }

        private static int bodyOf(int as, int act) {
            int place = as * ACTS + act;
            return within(place, 0, BODY.length - 1) ? BODY[place] : 0;
        }

        private void note(int body) {
            if (begun < TRACE_MOST) {
                bodies[begun] = body;
                begun++;
            }
        }
    }

    /** A row of bytes, shorts, ints or longs, each item held narrowed to the sort. */
    private static final class Sheet {
        final int sort;
        final long[] items;

        Sheet(int itsSort, long[] itsItems) {
            sort = itsSort;
            items = itsItems;
        }

        long narrowed(int v) {
            switch (sort) {
                case 0: return (byte) v;
                case 1: return (short) v;
                default: return v;
            }
        }
    }
}
