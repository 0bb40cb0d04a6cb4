import java.util.Arrays;

/** Whoever ate least bakes: eaters, houses of rules, suppers, and what may be asked of them. */
public final class AteLeast {
    public static final int NONE = -1, BAD = -2, STATE = -3, FULL = -4;
    public static final long NO = Long.MIN_VALUE;

    private static final int NOTHING = -11, CAST = -12, PLACE = -13, SIZE = -14;
    /** Answers of calls whose own answers may well be small and below 0. */
    private static final int FAR_NONE = -1000001, FAR_BAD = -1000002;
    /** Nobody, or none: told by many calls alike. */
    private static final int NOBODY = -5;
    private static final int TOO_MANY = -9;

    private static final int MOST_EATERS = 5, MOST_HOUSES = 6, MOST_BYTES = 100, MOST_CLAUSES = 10;
    private static final int MOST_PAGES = 12, MOST_BIN = 99, MOST_SLICES = 9, LAST_DAY = 9999;
    private static final int MOST_SUPPERS = 60, MOST_THIN = 8;
    private static final int TAPES = 6, MOST_ITEMS = 60, MOST_TRACE = 20;

    private static final int HUNGRY = 1, CRUMB = 2, TURN = 3, BEST = 4, MARTHA = 5, TOLD = 6;
    private static final int WORTH = 0, BAKE = 1, LOAF = 2, LAW = 3, SCALE = 4, SORTS = 5;
    /** Where the letters of a test stand in "ikhabd". */
    private static final int I = 0, K = 1, H = 2, A = 3, B = 4, D = 5, LETTERS = 6;
    private static final int INTS = 2, BOOLEANS = 4;

    private final Table now = new Table();
    private final Table image = new Table();
    /** What is asked is tried on this one, so that it changes nothing. */
    private final Table then = new Table();
    private final House bare = new House();
    private final House[] houses = new House[MOST_HOUSES];
    private final Supper evening = new Supper();
    private final Reader reader = new Reader();
    private final Acts acts = new Acts();
    private final Tape[] tapes = new Tape[TAPES];
    private final int[] trial = new int[MOST_EATERS];
    private final int[] first = new int[MOST_EATERS];
    private int houseCount = 0;
    private boolean imaged = false;

    public AteLeast() {
        for (int k = 0; k < MOST_HOUSES; k++) {
            houses[k] = new House();
        }
        for (int k = 0; k < TAPES; k++) {
            tapes[k] = new Tape();
        }
    }

    // ---- eaters, houses

    public int eater(int kind, int v, int hunger) {
        if (!within(kind, TOLD)) {
            return NONE;
        }
        if (!within(v, 9) || !within(hunger, 9)) {
            return BAD;
        }
        if (now.eaters >= MOST_EATERS) {
            return FULL;
        }
        return now.seat(kind, v, hunger);
    }

    public int of(int eater, int what) {
        if (!isEater(eater)) {
            return FAR_NONE;
        }
        switch (what) {
            case 0: return now.kind[eater];
            case 1: return now.v[eater];
            case 2: return now.hunger[eater];
            case 3: return now.eaten[eater];
            case 4: return now.glad[eater];
            default: return reckonedOf(eater, what);
        }
    }

    private int reckonedOf(int eater, int what) {
        evening.begin(now, holding());
        if (what == 5) {
            return evening.wishOf(eater);
        }
        if (what == 6) {
            return evening.ask(BAKE, eater, now.eaten[eater]);
        }
        if (what < 11 || what > 10 + MOST_SLICES) {
            return FAR_NONE;
        }
        return evening.ask(WORTH, eater, what - 10);
    }

    public int hunger(int eater, int n) {
        if (!isEater(eater)) {
            return NONE;
        }
        if (!within(n, 9)) {
            return BAD;
        }
        int was = now.hunger[eater];
        now.hunger[eater] = n;
        return was;
    }

    public int row(int eater, int part, int n) {
        if (!isEater(eater) || !within(part, 3)) {
            return NONE;
        }
        if (!within(n, 9)) {
            return BAD;
        }
        if (now.kind[eater] != TOLD) {
            return STATE;
        }
        int was = now.rows[eater * 4 + part];
        now.rows[eater * 4 + part] = n;
        return was;
    }

    public int bin(int n) {
        if (!within(n, MOST_BIN)) {
            return BAD;
        }
        int was = now.bin;
        now.bin = n;
        return was;
    }

    public int feed(int sign) {
        if (!within(sign, 127)) {
            return BAD;
        }
        if (reader.length >= MOST_BYTES) {
            return FULL;
        }
        return reader.append((char) sign);
    }

    public int house() {
        if (houseCount >= MOST_HOUSES) {
            return FULL;
        }
        int fault = reader.faultOf(houses[houseCount]);
        reader.length = 0;
        if (fault >= 0) {
            return -10 - fault;
        }
        now.held = houseCount;
        houseCount++;
        return now.held;
    }

    public int told(int what) {
        switch (what) {
            case 0: return holding().loaf;
            case 1: return holding().law;
            case 2: return holding().scale;
            case 3: return now.bin;
            case 4: return now.day;
            case 5: return now.baker;
            default: return NONE;
        }
    }

    // ---- suppers

    public int supper() {
        if (now.day >= LAST_DAY) {
            return STATE;
        }
        evening.hold(now, holding());
        return now.baker;
    }

    public int run(int n, int what) {
        boolean ofOne = isEater(what - 10) || isEater(what - 20);
        if (!within(what, 1) && !ofOne) {
            return FAR_NONE;
        }
        if (!within(n, MOST_SUPPERS)) {
            return FAR_BAD;
        }
        if (isEater(what - 20)) {
            return timesBaker(what - 20, n);
        }
        ahead(n);
        if (what == 0) {
            return then.bin;
        }
        return what == 1 ? then.baker : then.glad[what - 10];
    }

    private int timesBaker(int eater, int n) {
        int times = 0;
        then.becomes(now);
        for (int k = 0; k < n; k++) {
            evening.hold(then, holding());
            times += then.baker == eater ? 1 : 0;
        }
        return times;
    }

    public int round() {
        then.becomes(now);
        for (int k = 1; k <= MOST_SUPPERS; k++) {
            evening.hold(then, holding());
            if (then.looksLike(now)) {
                return k;
            }
        }
        return NOBODY;
    }

    // ---- what is best

    public int still(int what) {
        if (what != 0 && !isEater(what - 10)) {
            return FAR_NONE;
        }
        if (now.eaters >= MOST_EATERS) {
            return TOO_MANY;
        }
        int stillRows = 0;
        evening.begin(now, holding());
        for (int r = 0; r < rowsInAll(); r++) {
            becomesRow(r);
            if (nobodyGains()) {
                keepIf(stillRows == 0);
                stillRows++;
            }
        }
        if (what == 0) {
            return stillRows;
        }
        return stillRows == 0 ? NOBODY : first[what - 10];
    }

    public int allBest(int what) {
        if (what != 0 && !isEater(what - 10)) {
            return FAR_NONE;
        }
        if (now.eaters >= MOST_EATERS) {
            return TOO_MANY;
        }
        int most = 0;
        evening.begin(now, holding());
        for (int r = 0; r < rowsInAll(); r++) {
            becomesRow(r);
            evening.serve(trial);
            int together = evening.haveTogether();
            boolean better = r == 0 || together > most;
            keepIf(better);
            most = better ? together : most;
        }
        return what == 0 ? most : first[what - 10];
    }

    /** Each of the eaters may wish 0 .. 3. */
    private int rowsInAll() {
        return 1 << 2 * now.eaters;
    }

    /** The lowest number's wish counts most, so that rows come by numbers. */
    private void becomesRow(int r) {
        for (int e = 0; e < now.eaters; e++) {
            trial[e] = (r >> 2 * (now.eaters - 1 - e)) & 3;
        }
    }

    private void keepIf(boolean kept) {
        if (kept) {
            System.arraycopy(trial, 0, first, 0, MOST_EATERS);
        }
    }

    private boolean nobodyGains() {
        for (int e = 0; e < now.eaters; e++) {
            if (gains(e)) {
                return false;
            }
        }
        return true;
    }

    private boolean gains(int e) {
        int own = trial[e];
        evening.serve(trial);
        int has = evening.has(e);
        boolean more = false;
        for (int w = 0; w <= 3 && !more; w++) {
            trial[e] = w;
            evening.serve(trial);
            more = evening.has(e) > has;
        }
        trial[e] = own;
        return more;
    }

    public int laws(int n) {
        if (!within(n, MOST_SUPPERS)) {
            return BAD;
        }
        int best = 0;
        int most = 0;
        for (int law = 0; law < 3; law++) {
            evening.lawInstead = law;
            ahead(n);
            int glad = then.gladTogether();
            if (law == 0 || glad > most) {
                best = law;
                most = glad;
            }
        }
        evening.lawInstead = NONE;
        return best;
    }

    public int cook(int eater, int n) {
        if (!isEater(eater)) {
            return FAR_NONE;
        }
        if (!within(n, MOST_SUPPERS)) {
            return FAR_BAD;
        }
        evening.free = true;
        ahead(n);
        evening.free = false;
        int free = then.glad[eater];
        ahead(n);
        return free - then.glad[eater];
    }

    public int thin(int n) {
        if (!within(n, MOST_THIN)) {
            return BAD;
        }
        for (int bread = 0; bread <= MOST_BIN; bread++) {
            if (lasts(bread, n)) {
                return bread;
            }
        }
        return NOBODY;
    }

    private boolean lasts(int bread, int n) {
        then.becomes(now);
        then.bin = bread;
        for (int k = 0; k < n; k++) {
            evening.hold(then, holding());
            if (evening.someoneWentShort()) {
                return false;
            }
        }
        return true;
    }

    public int pact(int one, int other, int n) {
        if (!isEater(one) || !isEater(other)) {
            return FAR_NONE;
        }
        if (one == other || !within(n, MOST_SUPPERS)) {
            return FAR_BAD;
        }
        evening.agree(Math.min(one, other), Math.max(one, other));
        ahead(n);
        evening.agree(NONE, NONE);
        int agreed = then.glad[one] + then.glad[other];
        ahead(n);
        return agreed - then.glad[one] - then.glad[other];
    }

    public int guest(int hunger) {
        if (!within(hunger, 9)) {
            return BAD;
        }
        if (now.eaters >= MOST_EATERS) {
            return STATE;
        }
        then.becomes(now);
        then.seat(0, 0, hunger);
        evening.hold(then, holding());
        return then.baker;
    }

    // ---- odds, means, books

    public long odds(int eater, int part) {
        if (!isEater(eater) || !within(part, 1)) {
            return NO;
        }
        ahead(1);
        return fraction(evening.isLikeBaker(eater) ? 1 : 0, evening.likeBaker(), part);
    }

    public long mean(int n, int part) {
        if (n < 1 || n > MOST_SUPPERS || !within(part, 1) || now.eaters == 0) {
            return NO;
        }
        ahead(n);
        return fraction(then.gladTogether() - now.gladTogether(), n * now.eaters, part);
    }

    /** Part 0 above, part 1 below the line, in lowest terms; below is more than 0. */
    private static long fraction(long above, long below, int part) {
        long a = Math.abs(above);
        long b = below;
        for (int k = 0; k < 100 && b > 0; k++) {
            long rest = a % b;
            a = b;
            b = rest;
        }
        long common = Math.max(1, a);
        return (part == 0 ? above : below) / common;
    }

    public int book(int n) {
        if (n < -1 || n > MOST_BIN) {
            return BAD;
        }
        if (n == -1) {
            now.pages = 0;
            return 0;
        }
        if (now.pages >= MOST_PAGES) {
            return FULL;
        }
        now.book[now.pages] = n;
        now.pages++;
        return now.pages;
    }

    public int looked() {
        then.becomes(now);
        for (int k = 0; k < now.pages; k++) {
            evening.hold(then, holding());
            if (then.bin != now.book[k]) {
                return k;
            }
        }
        return NOBODY;
    }

    // ---- judging, the image, acts, tapes

    public int judge(int tape, int i) {
        if (!within(tape, TAPES - 1)) {
            return NONE;
        }
        Tape row = tapes[tape];
        if (row.sort != NONE && row.sort != INTS) {
            return CAST;
        }
        for (int e = 0; e < now.eaters; e++) {
            // i is below the length first of all, so that i + e cannot wrap
            if (i >= row.length || !row.has(i + e)) {
                return 100 + e;
            }
            if (row.items[i + e] != now.glad[e]) {
                return e;
            }
        }
        return NOBODY;
    }

    public int image() {
        image.becomes(now);
        imaged = true;
        return image.eaters;
    }

    public int undo() {
        if (!imaged) {
            return STATE;
        }
        now.becomes(image);
        return now.eaters;
    }

    public int act(int eater, int act, int x) {
        acts.ran = 0;
        if (!isEater(eater) || !within(act, 2)) {
            return 0;
        }
        return acts.does(act, x, now.kind[eater], eater, now.v[eater]);
    }

    public int trace(int i) {
        return within(i, Math.min(acts.ran, MOST_TRACE) - 1) ? acts.bodies[i] : NONE;
    }

    public int taken(int eater, int k) {
        if (!within(k, TOLD)) {
            return BAD;
        }
        if (!isEater(eater)) {
            return NOTHING;
        }
        return acts.isUnder(now.kind[eater], k) ? now.kind[eater] : CAST;
    }

    public int count(int what) {
        switch (what) {
            case 0: return now.eaters;
            case 1: return houseCount;
            case 2: return now.pages;
            case 3: return reader.length;
            case 4: return acts.ran;
            default: return BAD;
        }
    }

    public int tape(int tape, int sort, int n) {
        if (!within(tape, TAPES - 1)) {
            return NONE;
        }
        if (sort < -1 || sort > BOOLEANS || (sort >= 0 && n > MOST_ITEMS)) {
            return BAD;
        }
        if (sort >= 0 && n < 0) {
            return SIZE;
        }
        tapes[tape].becomesEmpty(sort, sort >= 0 ? n : 0);
        return 1;
    }

    public int item(int tape, int i, long v) {
        if (!within(tape, TAPES - 1)) {
            return NONE;
        }
        if (tapes[tape].sort == NONE) {
            return NOTHING;
        }
        if (!tapes[tape].has(i)) {
            return PLACE;
        }
        tapes[tape].put(i, v);
        return 1;
    }

    public long read(int tape, int i) {
        if (!within(tape, TAPES - 1) || !tapes[tape].has(i)) {
            return NO;
        }
        return tapes[tape].items[i];
    }

    public int shift(int tape, int i, int other, int j, int n) {
        if (!within(tape, TAPES - 1) || !within(other, TAPES - 1)) {
            return NONE;
        }
        Tape from = tapes[tape];
        Tape to = tapes[other];
        if (from.sort == NONE || to.sort == NONE) {
            return NOTHING;
        }
        if (from.sort != to.sort) {
            return CAST;
        }
        if (!from.hasStretch(i, n) || !to.hasStretch(j, n)) {
            return PLACE;
        }
        System.arraycopy(from.items, i, to.items, j, n);
        return n;
    }

    // ---- what the calls share

    private static boolean within(int n, int most) {
        return n >= 0 && n <= most;
    }

    private boolean isEater(int n) {
        return n >= 0 && n < now.eaters;
    }

    private House holding() {
        return within(now.held, houseCount - 1) ? houses[now.held] : bare;
    }

    /** Leaves in then how all would be n suppers on. */
    private void ahead(int n) {
        then.becomes(now);
        for (int k = 0; k < n; k++) {
            evening.hold(then, holding());
        }
    }

    /** How all is: what an image keeps. */
    static final class Table {
        final int[] kind = new int[MOST_EATERS];
        final int[] v = new int[MOST_EATERS];
        final int[] hunger = new int[MOST_EATERS];
        final int[] eaten = new int[MOST_EATERS];
        final int[] glad = new int[MOST_EATERS];
        final int[] rows = new int[MOST_EATERS * 4];
        final int[] book = new int[MOST_PAGES];
        int eaters = 0;
        int bin = 20;
        int day = 0;
        int baker = NOBODY;
        int pages = 0;
        int held = NONE;

        void becomes(Table other) {
            System.arraycopy(other.kind, 0, kind, 0, MOST_EATERS);
            System.arraycopy(other.v, 0, v, 0, MOST_EATERS);
            System.arraycopy(other.hunger, 0, hunger, 0, MOST_EATERS);
            System.arraycopy(other.eaten, 0, eaten, 0, MOST_EATERS);
            System.arraycopy(other.glad, 0, glad, 0, MOST_EATERS);
            System.arraycopy(other.rows, 0, rows, 0, MOST_EATERS * 4);
            System.arraycopy(other.book, 0, book, 0, MOST_PAGES);
            eaters = other.eaters;
            bin = other.bin;
            day = other.day;
            baker = other.baker;
            pages = other.pages;
            held = other.held;
        }

        /** Whoever is not there has eaten nothing and is told nothing: undo() brings that back, too. */
        int seat(int itsKind, int itsV, int itsHunger) {
            int number = eaters;
            if (number >= MOST_EATERS) {
                return FULL;
            }
            kind[number] = itsKind;
            v[number] = itsV;
            hunger[number] = itsHunger;
            eaters++;
            return number;
        }

        /** The wish of all kinds but BEST; a BEST one's is what others think it is. */
        int plainWish(int e) {
            switch (kind[e]) {
                case HUNGRY:
                case BEST: return Math.min(9, hunger[e] + v[e]);
                case CRUMB: return crumbMore(e);
                case MARTHA: return v[e] < 5 ? 0 : crumbMore(e);
                case TURN: return eaters > 0 && day % eaters == e ? 0 : hunger[e];
                case TOLD: return rows[e * 4 + day % 4];
                default: return hunger[e];
            }
        }

        private int crumbMore(int e) {
            int seen = e > 0 ? e - 1 : eaters - 1;
            return Math.min(9, eaten[Math.max(0, seen)] + 1);
        }

        int gladTogether() {
            int together = 0;
            for (int e = 0; e < eaters; e++) {
                together += glad[e];
            }
            return together;
        }

        boolean looksLike(Table other) {
            boolean like = bin == other.bin;
            for (int e = 0; e < eaters && like; e++) {
                like = eaten[e] == other.eaten[e];
            }
            return like;
        }
    }

    /** One supper at a table: what all wish, what they eat, who bakes, what each has by it. */
    static final class Supper {
        private final int[] wish = new int[MOST_EATERS];
        private final int[] thought = new int[MOST_EATERS];
        private final int[] ate = new int[MOST_EATERS];
        /** What each ate by the scales. */
        private final int[] portion = new int[MOST_EATERS];
        private final int[] letters = new int[LETTERS];
        /** Worth of the first slices together, and how many of them are known; costs, -1 while unknown. */
        private final int[] worth = new int[MOST_EATERS * 10];
        private final int[] known = new int[MOST_EATERS];
        private final int[] cost = new int[MOST_EATERS * 10];
        /** Empty ones until a supper begins, so that they are never null. */
        private Table table = new Table();
        private House house = new House();
        private int law = 0;
        private int left = 0;
        private int baker = NOBODY;
        /** What a question supposes; who sets these puts them back. */
        int lawInstead = NONE;
        boolean free = false;
        private int one = NONE;
        private int other = NONE;

        /** The lesser number first; NONE for both ends it. */
        void agree(int lesser, int greater) {
            one = lesser;
            other = greater;
        }

        /** Fixes what holds as the supper begins. */
        void begin(Table at, House by) {
            table = at;
            house = by;
            law = lawInstead == NONE ? by.law : lawInstead;
            letters[B] = at.bin / 10;
            letters[D] = at.day % 7;
            Arrays.fill(known, 0);
            Arrays.fill(cost, -1);
        }

        void hold(Table at, House by) {
            if (at.eaters == 0) {
                return;
            }
            begin(at, by);
            for (int e = 0; e < at.eaters; e++) {
                wish[e] = wishOf(e);
            }
            keepPact();
            serve(wish);
            for (int e = 0; e < at.eaters; e++) {
                at.eaten[e] = ate[e];
                at.glad[e] += has(e);
            }
            at.bin = Math.min(MOST_BIN, left + by.loaf);
            at.day++;
            at.baker = baker;
        }

        private void keepPact() {
            if (one == NONE || other == NONE) {
                return;
            }
            boolean even = table.day % 2 == 0;
            wish[one] = even ? 0 : 9;
            wish[other] = even ? 9 : 0;
        }

        int wishOf(int me) {
            if (table.kind[me] != BEST) {
                return table.plainWish(me);
            }
            for (int e = 0; e < table.eaters; e++) {
                thought[e] = table.plainWish(e);
            }
            int best = 0;
            int most = 0;
            for (int w = 0; w <= 9; w++) {
                thought[me] = w;
                serve(thought);
                int has = has(me);
                if (w == 0 || has > most) {
                    best = w;
                    most = has;
                }
            }
            return best;
        }

        void serve(int[] wishes) {
            left = table.bin;
            for (int e = 0; e < table.eaters; e++) {
                ate[e] = Math.min(wishes[e], left);
                left -= ate[e];
                portion[e] = ate[e] / Math.max(1, house.scale);
            }
            baker = law == 2 ? middle() : outermost();
        }

        private int outermost() {
            int found = table.eaters > 0 ? 0 : NOBODY;
            for (int e = 1; e < table.eaters; e++) {
                int more = portion[e] - portion[found];
                if (law == 0 ? more < 0 : more > 0) {
                    found = e;
                }
            }
            return found;
        }

        private int middle() {
            for (int e = 0; e < table.eaters; e++) {
                if (placeOf(e) == table.eaters / 2) {
                    return e;
                }
            }
            return NOBODY;
        }

        private int placeOf(int e) {
            int place = 0;
            for (int f = 0; f < table.eaters; f++) {
                int more = portion[e] - portion[f];
                if (more > 0 || (more == 0 && f < e)) {
                    place++;
                }
            }
            return place;
        }

        boolean isLikeBaker(int e) {
            return baker >= 0 && portion[e] == portion[baker];
        }

        int likeBaker() {
            int alike = 0;
            for (int e = 0; e < table.eaters; e++) {
                alike += isLikeBaker(e) ? 1 : 0;
            }
            return alike;
        }

        boolean someoneWentShort() {
            boolean went = false;
            for (int e = 0; e < table.eaters; e++) {
                went = went || ate[e] < wish[e];
            }
            return went;
        }

        int haveTogether() {
            int together = 0;
            for (int e = 0; e < table.eaters; e++) {
                together += has(e);
            }
            return together;
        }

        /** Asks the house only for what this supper did not need before: a question may try many rows. */
        int has(int e) {
            int at = e * 10;
            turnTo(e);
            for (int a = known[e] + 1; a <= ate[e]; a++) {
                letters[A] = a;
                worth[at + a] = worth[at + a - 1] + house.together(WORTH, letters);
                known[e] = a;
            }
            int has = worth[at + ate[e]];
            if (e != baker || free) {
                return has;
            }
            if (cost[at + ate[e]] < 0) {
                letters[A] = ate[e];
                cost[at + ate[e]] = house.together(BAKE, letters);
            }
            return has - cost[at + ate[e]];
        }

        /** Worth of the a-th slice, or the cost behind a slices. */
        int ask(int sort, int e, int a) {
            turnTo(e);
            letters[A] = a;
            return house.together(sort, letters);
        }

        private void turnTo(int e) {
            letters[I] = e;
            letters[K] = table.kind[e];
            letters[H] = table.hunger[e];
        }
    }

    /** Clauses; the tests of each stand as a row of signs, operands ahead of what joins them. */
    static final class House {
        static final int TEST = 0, NOT = 1, AND = 2, OR = 3;
        /** No letter stands for more; a number of two digits is this at most. */
        private static final int MOST_VALUE = 99;

        private final int[] sort = new int[MOST_CLAUSES];
        private final int[] n = new int[MOST_CLAUSES];
        private final int[] end = new int[MOST_CLAUSES];
        private final int[] signs = new int[MOST_BYTES];
        /** Of each sign that is a test: the letter, the least and the most that it may be. */
        private final int[] letter = new int[MOST_BYTES];
        private final int[] least = new int[MOST_BYTES];
        private final int[] most = new int[MOST_BYTES];
        private int clauses = 0;
        private int length = 0;
        int loaf = 8;
        int law = 0;
        int scale = 1;

        void clear() {
            clauses = 0;
            length = 0;
            loaf = 8;
            law = 0;
            scale = 1;
        }

        void addSign(int sign) {
            if (length < MOST_BYTES) {
                signs[length] = sign;
                length++;
            }
        }

        /** Relation: 0 below, 1 equal, 2 above the number. */
        void addTest(int itsLetter, int relation, int number) {
            if (length >= MOST_BYTES) {
                return;
            }
            letter[length] = itsLetter;
            least[length] = relation == 0 ? 0 : relation == 1 ? number : number + 1;
            most[length] = relation == 0 ? number - 1 : relation == 1 ? number : MOST_VALUE;
            signs[length] = TEST;
            length++;
        }

        /** Ends a clause: the signs since the one before are its tests. */
        void addClause(int itsSort, int itsN) {
            if (clauses >= MOST_CLAUSES) {
                return;
            }
            sort[clauses] = itsSort;
            n[clauses] = itsN;
            end[clauses] = length;
            clauses++;
            switch (itsSort) {
                case LOAF: loaf = itsN; break;
                case LAW: law = itsN % 3; break;
                case SCALE: scale = Math.max(1, itsN); break;
                default: break;
            }
        }

        /** The n of all clauses of a sort that hold, together. */
        int together(int asked, int[] letters) {
            boolean any = false;
            int together = 0;
            for (int c = 0; c < clauses; c++) {
                if (sort[c] == asked) {
                    any = true;
                    together += holds(c, letters) ? n[c] : 0;
                }
            }
            if (any) {
                return together;
            }
            return asked == WORTH ? 1 : 5;
        }

        /** The bits of stack are the answers not joined yet, the latest one lowest. */
        private boolean holds(int clause, int[] letters) {
            int stack = 0;
            for (int at = clause > 0 ? end[clause - 1] : 0; at < end[clause]; at++) {
                switch (signs[at]) {
                    case NOT:
                        stack ^= 1;
                        break;
                    case AND:
                        stack = (stack >> 1) & (stack | -2);
                        break;
                    case OR:
                        stack = (stack >> 1) | (stack & 1);
                        break;
                    default:
                        int value = letters[letter[at]];
                        stack = stack << 1 | (value >= least[at] && value <= most[at] ? 1 : 0);
                        break;
                }
            }
            return (stack & 1) == 1;
        }
    }

    /** The text, and how it is read: what cannot go on stops at the fault. */
    static final class Reader {
        private static final int MOST_DEPTH = 4;
        private static final String LETTERS_OF_TESTS = "ikhabd", RELATIONS = "<=>";

        private final char[] text = new char[MOST_BYTES];
        int length = 0;
        private int at = 0;
        private int value = 0;
        /** An empty one until a text is read, so that it is never null. */
        private House house = new House();

        int append(char sign) {
            if (length < MOST_BYTES) {
                text[length] = sign;
                length++;
            }
            return length;
        }

        /** The place of the fault, -1 if there is none. */
        int faultOf(House into) {
            at = 0;
            house = into;
            into.clear();
            boolean good = readClause();
            for (int k = 1; k < MOST_CLAUSES && good && sees(';'); k++) {
                at++;
                good = readClause();
            }
            return good && at == length ? -1 : at;
        }

        private boolean readClause() {
            int sort = readWord();
            if (sort == NONE || !takes(' ') || !readNumber()) {
                return false;
            }
            int n = value;
            boolean tested = sort == WORTH || sort == BAKE;
            if (tested && !(takes(' ') && readEither(0))) {
                return false;
            }
            house.addClause(sort, n);
            return true;
        }

        /** Words begin alike, so the fault is where the best of them ends. */
        private int readWord() {
            int best = 0;
            for (int sort = 0; sort < SORTS; sort++) {
                String word = wordOf(sort);
                int alike = alike(word);
                if (alike == word.length()) {
                    at += alike;
                    return sort;
                }
                best = Math.max(best, alike);
            }
            at += best;
            return NONE;
        }

        private static String wordOf(int sort) {
            switch (sort) {
                case WORTH: return "worth";
                case BAKE: return "bake";
                case LOAF: return "loaf";
                case LAW: return "law";
                default: return "scale";
            }
        }

        private int alike(String word) {
            int alike = 0;
            for (int k = 0; k < word.length() && at + k < length; k++) {
                if (text[at + k] != word.charAt(k)) {
                    break;
                }
                alike++;
            }
            return alike;
        }

        private boolean readNumber() {
            int digits = 0;
            value = 0;
            for (; digits < 2 && at < length && text[at] >= '0' && text[at] <= '9'; digits++) {
                value = value * 10 + text[at] - '0';
                at++;
            }
            return digits > 0;
        }

        /** E: T or T|E. Depth is how many ( and ! stand around. */
        private boolean readEither(int depth) {
            boolean good = readBoth(depth);
            for (int k = 0; k < MOST_BYTES && good && sees('|'); k++) {
                at++;
                good = readBoth(depth);
                house.addSign(House.OR);
            }
            return good;
        }

        /** T: F or F&T. */
        private boolean readBoth(int depth) {
            boolean good = readOne(depth);
            for (int k = 0; k < MOST_BYTES && good && sees('&'); k++) {
                at++;
                good = readOne(depth);
                house.addSign(House.AND);
            }
            return good;
        }

        /** F: !F, (E) or a test. */
        private boolean readOne(int depth) {
            boolean not = sees('!');
            if (!not && !sees('(')) {
                return readTest();
            }
            if (depth >= MOST_DEPTH) {
                return false;
            }
            at++;
            if (!not) {
                return readEither(depth + 1) && takes(')');
            }
            boolean good = readOne(depth + 1);
            house.addSign(House.NOT);
            return good;
        }

        private boolean readTest() {
            int letter = at < length ? LETTERS_OF_TESTS.indexOf(text[at]) : -1;
            if (letter < 0) {
                return false;
            }
            at++;
            int relation = at < length ? RELATIONS.indexOf(text[at]) : -1;
            if (relation < 0) {
                return false;
            }
            at++;
            if (!readNumber()) {
                return false;
            }
            house.addTest(letter, relation, value);
            return true;
        }

        private boolean sees(char sign) {
            return at < length && text[at] == sign;
        }

        private boolean takes(char sign) {
            if (!sees(sign)) {
                return false;
            }
            at++;
            return true;
        }
    }

    /** The bodies of the kinds, and the trace of those that ran. */
    static final class Acts {
        private static final int EATS = 0, BAKES = 1, TELLS = 2;
        private static final int MOST_DEPTH = 20;
        /** The kind above each; the first has none. */
        private static final int[] ABOVE = {-1, 0, 0, 0, 1, 2, 3};
        /** Which body eats, bakes, tells for each kind; a body's tens are its own kind and 1. */
        private static final int[] BODY = {
            10, 11, 12,
            10, 20, 12,
            30, 11, 12,
            10, 11, 40,
            50, 51, 12,
            30, 11, 60,
            71, 70, 40,
        };

        final int[] bodies = new int[MOST_TRACE];
        int ran = 0;
        private int kind = 0;
        private int i = 0;
        private int v = 0;

        /** What the act of an eater of that kind, number and v answers. */
        int does(int act, int x, int itsKind, int number, int itsV) {
            kind = itsKind;
            i = number;
            v = itsV;
            return own(act, x, 0);
        }

        boolean isUnder(int itsKind, int top) {
            int k = itsKind;
            for (int up = 0; up < ABOVE.length && k >= 0 && k != top; up++) {
                k = ABOVE[k];
            }
            return k == top;
        }

        private int own(int act, int x, int depth) {
            return runs(BODY[kind * 3 + act], x, depth + 1);
        }

        /** The body that a super call in a body means. */
        private int above(int body, int act, int x, int depth) {
            int up = Math.max(0, ABOVE[body / 10 - 1]);
            return runs(BODY[up * 3 + act], x, depth + 1);
        }

        private int runs(int body, int x, int depth) {
            if (depth > MOST_DEPTH) {
                return 0;
            }
            if (ran < MOST_TRACE) {
                bodies[ran] = body;
            }
            ran++;
            switch (body) {
                case 10: return x + i;
                case 11: return own(EATS, x, depth) - v;
                case 12: return own(BAKES, x, depth) * 2;
                case 20: return above(body, BAKES, x, depth) ^ 6;
                case 30: return above(body, EATS, x * 3, depth);
                case 40: return above(body, TELLS, x, depth) + own(BAKES, 1, depth);
                case 50: return -above(body, EATS, x, depth);
                case 51: return above(body, BAKES, x + 1, depth);
                case 60: return above(body, TELLS, x - i, depth);
                case 70: return above(body, BAKES, x, depth) + above(body, EATS, 2, depth);
                default: return above(body, EATS, x, depth) ^ v;
            }
        }
    }

    /** A row of items of one sort; each stands as the long that it reads as. */
    static final class Tape {
        final long[] items = new long[MOST_ITEMS];
        int sort = NONE;
        int length = 0;

        void becomesEmpty(int itsSort, int n) {
            sort = itsSort;
            length = n;
            Arrays.fill(items, 0L);
        }

        boolean has(int i) {
            return i >= 0 && i < length;
        }

        boolean hasStretch(int from, int n) {
            return n >= 0 && n <= length && from >= 0 && from <= length - n;
        }

        void put(int i, long v) {
            if (!has(i)) {
                return;
            }
            switch (sort) {
                case 0: items[i] = (byte) v; break;
                case 1: items[i] = (short) v; break;
                case INTS: items[i] = (int) v; break;
                case BOOLEANS: items[i] = v != 0 ? 1 : 0; break;
                default: items[i] = v; break;
            }
        }
    }
}
