/** Marriages that last as long as the bread baked for them; the document's promises 1 to 33. */
public final class LoafWed {
    public static final int NONE = -1, BAD = -2, NO = -3, FULL = -4;

    /** The document tells give, of and swapped this answer for BAD; it is counted as BAD all the same. */
    private static final int BAD_TEN = -10;
    private static final int NOT_SO_MANY = -5;
    private static final int READ_FAULT = -10;

    private static final int KINDS = 6;
    private static final int MOST_PAIRS = 6;
    private static final int MOST_KIN = 8;
    private static final int MOST_COUNTED = 8;
    private static final int MOST_LOAVES = 60;
    private static final int MOST_FLOUR = 20;
    private static final int MOST_SIGNS = 150;
    private static final int MOST_SIGN = 127;
    private static final int DOZEN = 12;
    private static final int WHOLE_DOZEN = 4095;
    private static final int IMAGES = 2;
    private static final int NEAR_YEARS = 60;
    private static final int FAR_YEARS = 99;
    private static final int MICE_YEARS = 12;
    private static final int MICE_ODDS = 10;
    private static final int MOST_SEED = 999999;
    private static final int PERCENT = 100;

    private final Valley now = new Valley();
    private final Valley[] images = new Valley[IMAGES];
    private final Reader reader = new Reader();
    private final Foresight foresight = new Foresight();
    private final Gifts giving = new Gifts();
    private final Strings strings = new Strings();
    private final Fraction fraction = new Fraction();
    private int refusedBad = 0;
    private int refusedNo = 0;
    private int refusedFull = 0;

    public LoafWed() {
    }

    // ---- a valley

    public int valley() {
        int there = now.pairs;
        now.begin();
        return there;
    }

    public int damp(int years) {
        if (!within(years, 0, WHOLE_DOZEN)) {
            return bad();
        }
        int were = now.damp;
        now.damp = years;
        return were;
    }

    public int dry(int years) {
        if (!within(years, 0, WHOLE_DOZEN)) {
            return bad();
        }
        int were = now.dry;
        now.dry = years;
        return were;
    }

    public int pair(int kind, int loaves) {
        if (!within(kind, 0, KINDS - 1) || !within(loaves, 0, MOST_LOAVES)) {
            return bad();
        }
        int number = now.addPair(kind, loaves);
        return number == FULL ? full() : number;
    }

    public int kin(int flour) {
        if (!within(flour, 1, MOST_FLOUR)) {
            return bad();
        }
        int number = now.addKin(flour);
        return number == FULL ? full() : number;
    }

    public int type(int c) {
        if (!within(c, 0, MOST_SIGN)) {
            return bad();
        }
        int signs = reader.addSign(c);
        return signs == FULL ? full() : signs;
    }

    public int clear() {
        return reader.empty();
    }

    public int read() {
        return reader.readInto(now);
    }

    // ---- years

    public int year(int n) {
        if (!within(n, 1, NEAR_YEARS)) {
            return bad();
        }
        int ended = 0;
        for (int y = 0; y < n; y++) {
            ended |= now.passYear();
        }
        return ended;
    }

    public int give(int pair, int n) {
        if (!now.hasPair(pair) || !within(n, -MOST_LOAVES, MOST_LOAVES)) {
            return badTen();
        }
        int had = now.loaves[pair];
        if (had == 0 || !within(had + n, 1, MOST_LOAVES)) {
            return no();
        }
        now.setLoaves(pair, had + n);
        return had + n;
    }

    public int undo() {
        if (now.past.size == 0) {
            return no();
        }
        now.goBack();
        return now.year;
    }

    public int of(int pair, int what) {
        if (!now.hasPair(pair)) {
            return badTen();
        }
        switch (what) {
            case 0:
                return now.kind[pair];
            case 1:
                return now.loaves[pair];
            case 2:
                return now.since[pair];
            case 3:
                return now.ended[pair];
            case 4:
                return Kinds.goes(now.kind[pair], now.year, now.damp, now.dry);
            default:
                return badTen();
        }
    }

    // ---- what comes

    public int left(int pair, int m) {
        if (!now.hasPair(pair) || !within(m, 0, FAR_YEARS)) {
            return bad();
        }
        return now.leftAs(now.kind[pair], now.loaves[pair], m, now.dry);
    }

    public int till(int pair) {
        if (!now.hasPair(pair)) {
            return bad();
        }
        return Foresight.endOf(now, pair);
    }

    public int together(int what) {
        if (!within(what, 0, 1)) {
            return bad();
        }
        foresight.lookForEnds(now);
        return what == 0 ? foresight.endYear : foresight.endPairs;
    }

    public int gifts(int a, int b, int t, int what) {
        if (!now.hasPair(a) || !now.hasPair(b) || a == b) {
            return bad();
        }
        if (!within(t, 1, NEAR_YEARS) || !within(what, 0, 2)) {
            return bad();
        }
        giving.search(now, a, b, t);
        if (what == 0) {
            return giving.least;
        }
        return what == 1 ? giving.leastToA : giving.leastToB;
    }

    public int drought(int m) {
        if (!within(m, 0, NEAR_YEARS)) {
            return bad();
        }
        return Foresight.worstDrought(now, m);
    }

    // ---- what was counted

    public int counted(int pair, int m, int v) {
        if (!now.hasPair(pair) || !within(m, 0, NEAR_YEARS) || !within(v, 0, MOST_LOAVES)) {
            return bad();
        }
        int there = now.addCounted(pair, m, v);
        return there == FULL ? full() : there;
    }

    public int forget() {
        int there = now.counted;
        now.counted = 0;
        return there;
    }

    public int is(int pair) {
        if (!now.hasPair(pair)) {
            return bad();
        }
        return Strings.kindsThatFit(now, pair);
    }

    public int next(int pair) {
        if (!now.hasPair(pair)) {
            return bad();
        }
        return strings.countNext(now, pair);
    }

    public int swapped(int k) {
        if (k < NONE) {
            return badTen();
        }
        return Strings.swaps(now, k);
    }

    public int back() {
        return Strings.pairsPutBack(now);
    }

    public int crusts(int pair, int what) {
        if (!now.hasPair(pair) || !within(what, 0, 1)) {
            return bad();
        }
        int loaves = now.loaves[pair];
        return what == 0 ? Crusts.beginnerWins(loaves) : Crusts.firstBroken(loaves);
    }

    public int mice(int pair, int t, int c) {
        if (!now.hasPair(pair) || !within(t, 0, MICE_YEARS) || !within(c, 0, MICE_ODDS)) {
            return bad();
        }
        foresight.chanceWithMice(now, pair, t, c, fraction);
        return 1;
    }

    public int years(int seed, int n, int w) {
        if (!within(seed, 0, MOST_SEED) || !within(n, 0, NEAR_YEARS) || !within(w, 0, PERCENT)) {
            return bad();
        }
        return foresight.loavesBySeed(now, seed, n, w);
    }

    // ---- what there is

    public long part(int what) {
        if (!within(what, 0, 1)) {
            return bad();
        }
        return what == 0 ? fraction.above : fraction.below;
    }

    public int image(int i) {
        if (!within(i, 0, IMAGES - 1)) {
            return bad();
        }
        Valley kept = images[i];
        if (kept == null) {
            kept = new Valley();
            images[i] = kept;
        }
        kept.copy(now);
        return 1;
    }

    public int from(int i) {
        if (!within(i, 0, IMAGES - 1)) {
            return bad();
        }
        Valley kept = images[i];
        if (kept == null) {
            return no();
        }
        now.copy(kept);
        return 1;
    }

    public int status(int what) {
        switch (what) {
            case 0:
                return refusedBad;
            case 1:
                return refusedNo;
            case 2:
                return refusedFull;
            default:
                refusedBad++;
                return NONE;
        }
    }

    public int count(int what) {
        switch (what) {
            case 0:
                return now.pairs;
            case 1:
                return now.kin;
            case 2:
                return now.year;
            case 3:
                return now.allLoaves();
            case 4:
                return now.counted;
            case 5:
                return now.past.size;
            case 6:
                return reader.length;
            default:
                return bad();
        }
    }

    public long digest() {
        long h = 1049;
        for (int what = 0; what <= 6; what++) {
            h = 31 * h + count(what);
        }
        h = now.digestOn(h);
        h = 31 * h + fraction.above;
        return 31 * h + fraction.below;
    }

    private int bad() {
        refusedBad++;
        return BAD;
    }

    private int badTen() {
        refusedBad++;
        return BAD_TEN;
    }

    private int no() {
        refusedNo++;
        return NO;
    }

    private int full() {
        refusedFull++;
        return FULL;
    }

    private static boolean within(int n, int least, int most) {
        return n >= least && n <= most;
    }

    /** How many loaves go in a year; one flat function, so that no call goes deeper than the language allows. */
    private static final class Kinds {
        static int goes(int kind, int year, int damp, int dry) {
            int ofDozen = year % DOZEN;
            boolean isFeast = year % 5 == 4;
            int plain = (dry >> ofDozen & 1) == 1 ? 2 : 1;
            int rich = year % 2 == 0 ? plain : 0;
            int quarrel = isFeast ? plain + 2 : plain;
            switch (kind) {
                case 1:
                    return rich;
                case 2:
                    return quarrel;
                case 3:
                    return (damp >> ofDozen & 1) == 1 ? 2 * plain : plain;
                case 4:
                    return year % 3 == 2 ? quarrel + 1 : quarrel;
                case 5:
                    return isFeast || rich == 0 ? rich : rich - 1;
                default:
                    return plain;
            }
        }

        /** What is left of loaves when one year has gone by. */
        static int leftAfter(int loaves, int kind, int year, int damp, int dry) {
            return Math.max(0, loaves - goes(kind, year, damp, dry));
        }
    }

    /** What may be undone: rows of a year, all loaves and all ends, in a ring, so that the oldest goes first. */
    private static final class Past {
        private static final int MOST = 8;
        private static final int ROW = 1 + 2 * MOST_PAIRS;

        private final int[] rows = new int[MOST * ROW];
        private int free = 0;
        int size = 0;

        void copy(Past other) {
            System.arraycopy(other.rows, 0, rows, 0, MOST * ROW);
            free = other.free;
            size = other.size;
        }

        void push(int year, int[] loaves, int[] ended) {
            int at = free * ROW;
            rows[at] = year;
            System.arraycopy(loaves, 0, rows, at + 1, MOST_PAIRS);
            System.arraycopy(ended, 0, rows, at + 1 + MOST_PAIRS, MOST_PAIRS);
            free = (free + 1) % MOST;
            size = Math.min(MOST, size + 1);
        }

        /** The year of the newest row, which goes; it is asked only where there is a row. */
        int pop(int[] loaves, int[] ended) {
            free = (free + MOST - 1) % MOST;
            size = Math.max(0, size - 1);
            int at = free * ROW;
            System.arraycopy(rows, at + 1, loaves, 0, MOST_PAIRS);
            System.arraycopy(rows, at + 1 + MOST_PAIRS, ended, 0, MOST_PAIRS);
            return rows[at];
        }
    }

    /** All that an image keeps. */
    private static final class Valley {
        int year = 0;
        int damp = 0;
        int dry = 0;
        int pairs = 0;
        int kin = 0;
        int counted = 0;
        final int[] kind = new int[MOST_PAIRS];
        final int[] loaves = new int[MOST_PAIRS];
        final int[] since = new int[MOST_PAIRS];
        final int[] ended = new int[MOST_PAIRS];
        final int[] flour = new int[MOST_KIN];
        final int[] countedPair = new int[MOST_COUNTED];
        final int[] countedYears = new int[MOST_COUNTED];
        final int[] countedLoaves = new int[MOST_COUNTED];
        final Past past = new Past();

        void begin() {
            year = 0;
            damp = 0;
            dry = 0;
            pairs = 0;
            kin = 0;
            counted = 0;
            past.size = 0;
        }

        void copy(Valley other) {
            year = other.year;
            damp = other.damp;
            dry = other.dry;
            pairs = other.pairs;
            kin = other.kin;
            counted = other.counted;
            System.arraycopy(other.kind, 0, kind, 0, MOST_PAIRS);
            System.arraycopy(other.loaves, 0, loaves, 0, MOST_PAIRS);
            System.arraycopy(other.since, 0, since, 0, MOST_PAIRS);
            System.arraycopy(other.ended, 0, ended, 0, MOST_PAIRS);
            System.arraycopy(other.flour, 0, flour, 0, MOST_KIN);
            System.arraycopy(other.countedPair, 0, countedPair, 0, MOST_COUNTED);
            System.arraycopy(other.countedYears, 0, countedYears, 0, MOST_COUNTED);
            System.arraycopy(other.countedLoaves, 0, countedLoaves, 0, MOST_COUNTED);
            past.copy(other.past);
        }

        boolean hasPair(int pair) {
            return pair >= 0 && pair < pairs;
        }

        int addPair(int kindOf, int loavesOf) {
            if (pairs >= MOST_PAIRS) {
                return FULL;
            }
            kind[pairs] = kindOf;
            loaves[pairs] = loavesOf;
            since[pairs] = year;
            ended[pairs] = NONE;
            // A row of the past knows nothing of this pair, so none may be undone behind it.
            past.size = 0;
            return pairs++;
        }

        int addKin(int flourOf) {
            if (kin >= MOST_KIN) {
                return FULL;
            }
            flour[kin] = flourOf;
            return kin++;
        }

        int addCounted(int pair, int m, int v) {
            if (counted >= MOST_COUNTED) {
                return FULL;
            }
            countedPair[counted] = pair;
            countedYears[counted] = m;
            countedLoaves[counted] = v;
            return ++counted;
        }

        /** The pairs (bits) that end in the year that goes by. */
        int passYear() {
            past.push(year, loaves, ended);
            int endedNow = 0;
            for (int p = 0; p < pairs; p++) {
                if (loaves[p] > 0) {
                    loaves[p] = Kinds.leftAfter(loaves[p], kind[p], year, damp, dry);
                    if (loaves[p] == 0) {
                        ended[p] = year;
                        endedNow |= 1 << p;
                    }
                }
            }
            year++;
            return endedNow;
        }

        void setLoaves(int pair, int n) {
            past.push(year, loaves, ended);
            loaves[pair] = n;
        }

        void goBack() {
            if (past.size > 0) {
                year = past.pop(loaves, ended);
            }
        }

        /** What would be left behind m years, were there these loaves, this kind and these dry years. */
        int leftAs(int kindThen, int loavesThen, int m, int dryThen) {
            int have = loavesThen;
            for (int y = 0; y < m && have > 0; y++) {
                have = Kinds.leftAfter(have, kindThen, year + y, damp, dryThen);
            }
            return have;
        }

        /** What is left of a pair's loaves when the y-th year from now has gone by. */
        int leftInYear(int loavesThen, int pair, int y) {
            return Kinds.leftAfter(loavesThen, kind[pair], year + y, damp, dry);
        }

        int allLoaves() {
            int all = 0;
            for (int p = 0; p < pairs; p++) {
                all += loaves[p];
            }
            return all;
        }

        long digestOn(long before) {
            long h = 31 * before + damp;
            h = 31 * h + dry;
            for (int p = 0; p < pairs; p++) {
                h = 31 * h + kind[p];
                h = 31 * h + loaves[p];
                h = 31 * h + since[p];
                h = 31 * h + ended[p];
            }
            for (int k = 0; k < kin; k++) {
                h = 31 * h + flour[k];
            }
            for (int c = 0; c < counted; c++) {
                h = 31 * h + countedPair[c];
                h = 31 * h + countedYears[c];
                h = 31 * h + countedLoaves[c];
            }
            return h;
        }
    }

    /** The years that come, looked at without changing the valley. */
    private static final class Foresight {
        private final int[] have = new int[MOST_PAIRS];
        private final long[] chance = new long[MOST_LOAVES + 1];
        int endYear = NONE;
        int endPairs = NONE;

        static int endOf(Valley v, int pair) {
            if (v.ended[pair] != NONE) {
                return v.ended[pair];
            }
            int loaves = v.loaves[pair];
            for (int y = 0; y < FAR_YEARS && loaves > 0; y++) {
                loaves = v.leftInYear(loaves, pair, y);
                if (loaves == 0) {
                    return v.year + y;
                }
            }
            return NONE;
        }

        /** Sets the year in which most pairs end and which they are; NONE where no two end in one. */
        void lookForEnds(Valley v) {
            endYear = NONE;
            endPairs = NONE;
            int most = 1;
            System.arraycopy(v.loaves, 0, have, 0, MOST_PAIRS);
            for (int y = 0; y < FAR_YEARS; y++) {
                int ending = endingInYear(v, y);
                if (Integer.bitCount(ending) > most) {
                    most = Integer.bitCount(ending);
                    endYear = v.year + y;
                    endPairs = ending;
                }
            }
        }

        private int endingInYear(Valley v, int y) {
            int ending = 0;
            for (int p = 0; p < v.pairs; p++) {
                if (have[p] > 0) {
                    have[p] = v.leftInYear(have[p], p, y);
                    if (have[p] == 0) {
                        ending |= 1 << p;
                    }
                }
            }
            return ending;
        }

        static int worstDrought(Valley v, int m) {
            int worst = NONE;
            int fewest = 0;
            for (int d = 0; d < DOZEN; d++) {
                if ((v.dry >> d & 1) == 0) {
                    int all = loavesBehind(v, m, v.dry | 1 << d);
                    if (worst == NONE || all < fewest) {
                        worst = d;
                        fewest = all;
                    }
                }
            }
            return worst;
        }

        private static int loavesBehind(Valley v, int m, int dryThen) {
            int all = 0;
            for (int p = 0; p < v.pairs; p++) {
                all += v.leftAs(v.kind[p], v.loaves[p], m, dryThen);
            }
            return all;
        }

        int loavesBySeed(Valley v, int seed, int n, int w) {
            System.arraycopy(v.loaves, 0, have, 0, MOST_PAIRS);
            long x = seed;
            for (int y = 0; y < n; y++) {
                for (int p = 0; p < v.pairs; p++) {
                    x = (x * 1103515245L + 12345L) % 2147483648L;
                    have[p] = v.leftInYear(have[p], p, y);
                    if (x / 65536 % PERCENT < w && have[p] > 0) {
                        have[p]--;
                    }
                }
            }
            int all = 0;
            for (int p = 0; p < v.pairs; p++) {
                all += have[p];
            }
            return all;
        }

        /** Counts ways, ten a year: those of twelve years are 10 to the 12th, which a long holds. */
        void chanceWithMice(Valley v, int pair, int t, int c, Fraction answer) {
            for (int n = 0; n <= MOST_LOAVES; n++) {
                chance[n] = n == v.loaves[pair] ? 1 : 0;
            }
            long ways = 1;
            for (int y = 0; y < t; y++) {
                miceEat(v, pair, y, c);
                ways *= MICE_ODDS;
            }
            answer.set(ways - chance[0], ways);
        }

        /** One row is enough: loaves only become fewer, so from the fewest on none is met twice. */
        private void miceEat(Valley v, int pair, int y, int c) {
            for (int n = 0; n <= MOST_LOAVES; n++) {
                long ways = chance[n];
                chance[n] = 0;
                int after = v.leftInYear(n, pair, y);
                if (after == 0) {
                    chance[0] += ways * MICE_ODDS;
                } else {
                    chance[after] += ways * (MICE_ODDS - c);
                    chance[after - 1] += ways * c;
                }
            }
        }
    }

    /** The least flour by which two pairs last. */
    private static final class Gifts {
        private int needA = 0;
        private int needB = 0;
        int least = NONE;
        int leastToA = NONE;
        int leastToB = NONE;

        void search(Valley v, int a, int b, int t) {
            needA = flourNeeded(v, a, t);
            needB = flourNeeded(v, b, t);
            least = NONE;
            leastToA = NONE;
            leastToB = NONE;
            share(this, v, 0, 0, 0, 0, 0);
        }

        /** All that goes in t years, and one loaf that must be left, less what there is. */
        private static int flourNeeded(Valley v, int pair, int t) {
            int goes = 0;
            for (int y = 0; y < t; y++) {
                goes += Kinds.goes(v.kind[pair], v.year + y, v.damp, v.dry);
            }
            return Math.max(0, goes + 1 - v.loaves[pair]);
        }

        /** Rows come in the document's order and only a lesser one is taken, so the first of the least stays. */
        private static void share(Gifts g, Valley v, int kin, int gotA, int gotB, int toA, int toB) {
            if (g.least != NONE && gotA + gotB >= g.least) {
                return;
            }
            if (gotA >= g.needA && gotB >= g.needB) {
                g.least = gotA + gotB;
                g.leastToA = toA;
                g.leastToB = toB;
                return;
            }
            if (kin < 0 || kin >= v.kin || kin >= MOST_KIN) {
                return;
            }
            int flour = v.flour[kin];
            share(g, v, kin + 1, gotA, gotB, toA, toB);
            share(g, v, kin + 1, gotA + flour, gotB, toA | 1 << kin, toB);
            share(g, v, kin + 1, gotA, gotB + flour, toA, toB | 1 << kin);
        }
    }

    /** What the strings that were counted say. */
    private static final class Strings {
        private final int[] have = new int[KINDS];

        static int kindsThatFit(Valley v, int pair) {
            int fit = 0;
            for (int k = 0; k < KINDS; k++) {
                if (fits(v, pair, k)) {
                    fit |= 1 << k;
                }
            }
            return fit;
        }

        private static boolean fits(Valley v, int pair, int kind) {
            for (int c = 0; c < v.counted; c++) {
                if (v.countedPair[c] == pair) {
                    int left = v.leftAs(kind, v.loaves[pair], v.countedYears[c], v.dry);
                    if (left != v.countedLoaves[c]) {
                        return false;
                    }
                }
            }
            return true;
        }

        int countNext(Valley v, int pair) {
            int fit = kindsThatFit(v, pair);
            if (fit == 0) {
                return NONE;
            }
            for (int k = 0; k < KINDS; k++) {
                have[k] = v.loaves[pair];
            }
            int best = 0;
            int fewest = mostAlike(fit);
            for (int m = 1; m <= NEAR_YEARS; m++) {
                passYearByKind(v, m - 1);
                int alike = mostAlike(fit);
                if (alike < fewest) {
                    best = m;
                    fewest = alike;
                }
            }
            return best;
        }

        private void passYearByKind(Valley v, int y) {
            for (int k = 0; k < KINDS; k++) {
                have[k] = Kinds.leftAfter(have[k], k, v.year + y, v.damp, v.dry);
            }
        }

        private int mostAlike(int fit) {
            int most = 0;
            for (int k = 0; k < KINDS; k++) {
                if ((fit >> k & 1) == 1) {
                    most = Math.max(most, howManyHave(have[k], fit));
                }
            }
            return most;
        }

        private int howManyHave(int loaves, int fit) {
            int many = 0;
            for (int k = 0; k < KINDS; k++) {
                if ((fit >> k & 1) == 1 && have[k] == loaves) {
                    many++;
                }
            }
            return many;
        }

        /** How many swaps fit, if k is NONE; else the k-th of them. */
        static int swaps(Valley v, int k) {
            int found = 0;
            for (int i = 0; i < v.pairs; i++) {
                for (int j = i + 1; j < v.pairs; j++) {
                    if (fitsSwapped(v, i, j)) {
                        if (found == k) {
                            return 10 * i + j;
                        }
                        found++;
                    }
                }
            }
            return k == NONE ? found : NOT_SO_MANY;
        }

        private static boolean fitsSwapped(Valley v, int i, int j) {
            for (int c = 0; c < v.counted; c++) {
                int pair = v.countedPair[c];
                int holder = pair == i ? j : pair == j ? i : pair;
                int left = v.leftAs(v.kind[pair], v.loaves[holder], v.countedYears[c], v.dry);
                if (left != v.countedLoaves[c]) {
                    return false;
                }
            }
            return true;
        }

        static int pairsPutBack(Valley v) {
            int puts = 0;
            for (int p = 0; p < v.pairs; p++) {
                if (fitsPutBack(v, p)) {
                    puts |= 1 << p;
                }
            }
            return puts;
        }

        private static boolean fitsPutBack(Valley v, int helped) {
            for (int c = 0; c < v.counted; c++) {
                int pair = v.countedPair[c];
                int more = pair == helped ? 1 : 0;
                if (leftWithMore(v, pair, v.countedYears[c], more) != v.countedLoaves[c]) {
                    return false;
                }
            }
            return true;
        }

        private static int leftWithMore(Valley v, int pair, int m, int more) {
            int loaves = v.loaves[pair];
            for (int y = 0; y < m && loaves > 0; y++) {
                loaves = v.leftInYear(Math.min(MOST_LOAVES, loaves + more), pair, y);
            }
            return loaves;
        }
    }

    /** Who begins with one loaf more than fours loses, for the other can always make four of both turns. */
    private static final class Crusts {
        static int beginnerWins(int loaves) {
            return loaves % 4 == 1 ? 0 : 1;
        }

        static int firstBroken(int loaves) {
            return loaves == 0 ? 0 : (loaves - 1) % 4;
        }
    }

    private static final class Fraction {
        /** Euclid's steps for two longs are fewer than this. */
        private static final int MOST_STEPS = 100;

        long above = 0;
        long below = 1;

        void set(long newAbove, long newBelow) {
            long by = commonDivisor(newAbove, newBelow);
            if (by > 0) {
                above = newAbove / by;
                below = newBelow / by;
            }
        }

        private static long commonDivisor(long a, long b) {
            long greater = a;
            long less = b;
            for (int step = 0; step < MOST_STEPS && less != 0; step++) {
                long rest = greater % less;
                greater = less;
                less = rest;
            }
            return greater;
        }
    }

    /** The text, and the valley that it tells. */
    private static final class Reader {
        private static final int END = 0;
        private static final int WORD = 1;
        private static final int NUMBER = 2;
        private static final int SEMICOLON = 3;
        private static final int NO_TOKEN = 4;

        private final byte[] signs = new byte[MOST_SIGNS];
        int length = 0;
        /** Told apart from the valley that lives, for that one stays if there is a fault. */
        private final Valley told = new Valley();
        private int token = END;
        private int first = 0;
        private int behind = 0;
        private int number = 0;

        int addSign(int c) {
            if (length >= MOST_SIGNS) {
                return FULL;
            }
            signs[length] = (byte) c;
            return ++length;
        }

        int empty() {
            int had = length;
            length = 0;
            return had;
        }

        /** How many items; READ_FAULT less the place of the fault, if there is one. */
        int readInto(Valley valley) {
            told.begin();
            behind = 0;
            int items = 0;
            while (items <= MOST_SIGNS) {
                takeToken();
                if (token == END && items > 0) {
                    valley.copy(told);
                    return items;
                }
                if (!readItem(items == 0)) {
                    break;
                }
                items++;
            }
            return READ_FAULT - first;
        }

        /** Whether an item stands here; if not, the token that was taken last is the fault. */
        private boolean readItem(boolean isFirst) {
            if (token != WORD) {
                return false;
            }
            if (isFirst) {
                return isWord("valley") && takeSemicolon();
            }
            if (isWord("damp")) {
                return readDamp();
            }
            if (isWord("dry")) {
                return readDry();
            }
            if (isWord("pair")) {
                return readPair();
            }
            return isWord("kin") && readKin();
        }

        private boolean readDamp() {
            int years = takeYears();
            if (years == NONE) {
                return false;
            }
            told.damp |= years;
            return true;
        }

        private boolean readDry() {
            int years = takeYears();
            if (years == NONE) {
                return false;
            }
            told.dry |= years;
            return true;
        }

        private boolean readPair() {
            if (told.pairs >= MOST_PAIRS || !takeNumber(0, KINDS - 1)) {
                return false;
            }
            int kind = number;
            if (!takeNumber(0, MOST_LOAVES)) {
                return false;
            }
            told.addPair(kind, number);
            return takeSemicolon();
        }

        private boolean readKin() {
            if (told.kin >= MOST_KIN || !takeNumber(1, MOST_FLOUR)) {
                return false;
            }
            told.addKin(number);
            return takeSemicolon();
        }

        /** Years of a dozen (bits) up to the semicolon; NONE if something else stands there. */
        private int takeYears() {
            int years = 0;
            for (int taken = 0; taken <= MOST_SIGNS; taken++) {
                takeToken();
                if (token == SEMICOLON) {
                    return years;
                }
                if (token != NUMBER || number >= DOZEN) {
                    return NONE;
                }
                years |= 1 << number;
            }
            return NONE;
        }

        private boolean takeNumber(int least, int most) {
            takeToken();
            return token == NUMBER && within(number, least, most);
        }

        private boolean takeSemicolon() {
            takeToken();
            return token == SEMICOLON;
        }

        private void takeToken() {
            takeRun(' ', ' ');
            first = behind;
            if (behind >= length) {
                token = END;
            } else if (within(signs[behind], 'a', 'z')) {
                takeRun('a', 'z');
                token = WORD;
            } else if (within(signs[behind], '0', '9')) {
                takeRun('0', '9');
                setNumber();
            } else {
                token = signs[behind] == ';' ? SEMICOLON : NO_TOKEN;
                behind++;
            }
        }

        /** A third figure spoils the whole number, so that one run of figures is always one token. */
        private void setNumber() {
            token = behind - first <= 2 ? NUMBER : NO_TOKEN;
            number = 0;
            for (int i = first; i < behind && token == NUMBER; i++) {
                number = 10 * number + signs[i] - '0';
            }
        }

        private void takeRun(int least, int most) {
            while (behind < length && signs[behind] >= least && signs[behind] <= most) {
                behind++;
            }
        }

        private boolean isWord(String word) {
            if (behind - first != word.length()) {
                return false;
            }
            for (int i = 0; i < word.length(); i++) {
                if (signs[first + i] != word.charAt(i)) {
                    return false;
                }
            }
            return true;
        }
    }
}
