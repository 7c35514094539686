/** Promises 19 to 27: counted, forget, is, next, swapped, back, crusts, mice, years. */
public final class CountedTest {
    private static final Check CHECK = new Check();

    public static void main(String[] args) {
        countedAndForget();
        is();
        next();
        swapped();
        back();
        crusts();
        mice();
        years();
        nothingChanges();
        CHECK.end("CountedTest");
    }

    private static void due(String call, long got, long want) {
        CHECK.due(call, got, want);
    }

    private static void countedAndForget() {
        LoafWed x = new LoafWed();
        due("19: no pair", x.counted(0, 0, 0), LoafWed.BAD);
        x.pair(0, 5);
        due("19: no such pair", x.counted(1, 0, 0), LoafWed.BAD);
        due("19: no such pair", x.counted(-1, 0, 0), LoafWed.BAD);
        due("19: m of 61", x.counted(0, 61, 0), LoafWed.BAD);
        due("19: m of -1", x.counted(0, -1, 0), LoafWed.BAD);
        due("19: v of 61", x.counted(0, 0, 61), LoafWed.BAD);
        due("19: v of -1", x.counted(0, 0, -1), LoafWed.BAD);
        due("20: none", x.forget(), 0);
        for (int i = 1; i <= 8; i++) {
            due("19: counted", x.counted(0, 60, 60), i);
        }
        due("19: a 9th", x.counted(0, 0, 0), LoafWed.FULL);
        due("19: BAD is ahead of FULL", x.counted(0, 0, 61), LoafWed.BAD);
        due("19: eight", x.count(4), 8);
        due("20: forget", x.forget(), 8);
        due("20: none", x.count(4), 0);
        due("19: again", x.counted(0, 0, 0), 1);
        due("19: refused", x.status(0), 8);
        due("19: full", x.status(2), 1);
    }

    private static void is() {
        LoafWed x = new LoafWed();
        due("21: no pair", x.is(0), LoafWed.BAD);
        x.pair(0, 20);
        x.pair(4, 9);
        due("21: nothing was counted", x.is(0), 63);
        x.counted(0, 1, 20);
        due("21: only misers eat nothing in year 0", x.is(0), 32);
        due("21: of the other all fits", x.is(1), 63);
        x.forget();
        x.counted(0, 2, 18);
        due("21: one a year, plain as quarrel, damp and friends", x.is(0), 1 + 4 + 8 + 16);
        x.counted(0, 3, 16);
        due("21: friends in year 2", x.is(0), 16);
        x.counted(0, 4, 16);
        due("21: no kind", x.is(0), 0);
        x.forget();
        x.counted(0, 1, 20);
        x.year(1);
        due("21: from now, which is a year later", x.is(0), 0);
        x.forget();
        x.counted(0, 1, 19);
        due("21: year 1 is odd", x.is(0), 2 + 32);
        due("21: is(2)", x.is(2), LoafWed.BAD);
        due("21: is(-1)", x.is(-1), LoafWed.BAD);
        due("21: refused", x.status(0), 3);
    }

    private static void next() {
        LoafWed x = new LoafWed();
        due("22: no pair", x.next(0), LoafWed.BAD);
        x.pair(0, 60);
        x.pair(0, 0);
        due("22: with none all have alike", x.next(1), 0);
        // Behind 3: 57, 58, 57, 57, 56, 60. Behind 4: 56, 58, 56, 56, 55, 60. Behind 5: 55, 57, 53, 55, 52, 59.
        due("22: plain and damp house stay alike", x.next(0), 5);
        x.counted(0, 5, 55);
        due("22: two that never differ", x.next(0), 0);
        x.damp(1 << 7);
        due("22: damp in year 7", x.next(0), 8);
        x.counted(0, 5, 1);
        due("22: no kind", x.next(0), LoafWed.NONE);
        x.forget();
        x.counted(0, 1, 60);
        due("22: one kind", x.next(0), 0);
        due("22: next(2)", x.next(2), LoafWed.BAD);
        due("22: next(-1)", x.next(-1), LoafWed.BAD);
        due("22: refused", x.status(0), 3);
        x.valley();
        x.damp(2);
        x.pair(0, 60);
        // Behind 4: 56, 58, 56, 55, 55, 60. Behind 5: 55, 57, 53, 54, 52, 59.
        due("22: the first in which all are unlike", x.next(0), 5);
    }

    private static void swapped() {
        LoafWed x = new LoafWed();
        due("23: none", x.swapped(-1), 0);
        due("23: not so many", x.swapped(0), -5);
        due("23: swapped(-2)", x.swapped(-2), -10);
        x.pair(0, 4);
        due("23: one alone", x.swapped(-1), 0);
        x.pair(0, 9);
        x.pair(2, 9);
        x.pair(1, 6);
        due("23: all, if nothing was counted", x.swapped(-1), 6);
        int[] rows = {1, 2, 3, 12, 13, 23};
        for (int k = 0; k < 6; k++) {
            due("23: by i, then by j", x.swapped(k), rows[k]);
        }
        due("23: not so many", x.swapped(6), -5);
        due("23: not so many", x.swapped(Integer.MAX_VALUE), -5);
        x.counted(0, 0, 9);
        due("23: two could have had 9", x.swapped(-1), 2);
        due("23: the second", x.swapped(1), 2);
        x.counted(2, 2, 2);
        due("23: pair 2 would have 4 less 2", x.swapped(-1), 1);
        due("23: which", x.swapped(0), 2);
        x.forget();
        x.counted(1, 0, 9);
        x.counted(2, 0, 9);
        due("23: like ones, or ones beside", x.swapped(-1), 2);
        due("23: beside", x.swapped(0), 3);
        due("23: like ones", x.swapped(1), 12);
        due("23: minus 5 is no refusal", x.status(0) + 100 * x.status(1) + 10000 * x.status(2), 1);
        due("23: loaves stay", x.of(1, 1), 9);
    }

    private static void back() {
        LoafWed x = new LoafWed();
        due("24: none", x.back(), 0);
        x.pair(0, 5);
        x.pair(1, 5);
        x.pair(0, 0);
        x.pair(5, 60);
        due("24: all, if nothing was counted", x.back(), 15);
        x.counted(0, 4, 5);
        due("24: only by one put back", x.back(), 1);
        x.counted(1, 4, 3);
        due("24: the other's is so anyway", x.back(), 1);
        x.counted(1, 2, 6);
        due("24: both can't be", x.back(), 0);
        x.forget();
        x.counted(0, 2, 3);
        due("24: none but the one", x.back(), 14);
        x.counted(2, 9, 0);
        due("24: none is put where none is", x.back(), 14);
        x.counted(3, 4, 60);
        due("24: 60 at most", x.back(), 14);
        x.counted(3, 5, 59);
        due("24: 60 at most, ahead of what goes", x.back(), 14);
        x.counted(3, 7, 60);
        due("24: put back behind a feast", x.back(), 8);
        x.valley();
        x.dry(1);
        x.pair(0, 1);
        x.counted(0, 1, 0);
        due("24: ahead of what goes, and two go", x.back(), 1);
        x.valley();
        x.pair(0, 1);
        x.counted(0, 9, 1);
        due("24: it never ends so", x.back(), 1);
        due("24: loaves stay", x.of(0, 1), 1);
    }

    private static void crusts() {
        LoafWed x = new LoafWed();
        due("25: no pair", x.crusts(0, 0), LoafWed.BAD);
        x.pair(0, 0);
        due("25: with none who begins has won", x.crusts(0, 0), 1);
        due("25: none to break off", x.crusts(0, 1), 0);
        int[] loaves = {1, 2, 3, 4, 5};
        int[] first = {0, 1, 2, 3, 0};
        for (int i = 0; i < 5; i++) {
            x.pair(i, loaves[i]);
            due("25: whether, of " + loaves[i], x.crusts(i + 1, 0), first[i] == 0 ? 0 : 1);
            due("25: how many, of " + loaves[i], x.crusts(i + 1, 1), first[i]);
        }
        x.give(1, 59);
        due("25: whether, of 60", x.crusts(1, 0), 1);
        due("25: how many, of 60", x.crusts(1, 1), 3);
        x.give(1, -3);
        due("25: whether, of 57", x.crusts(1, 0), 0);
        due("25: crusts(0, 2)", x.crusts(0, 2), LoafWed.BAD);
        due("25: crusts(0, -1)", x.crusts(0, -1), LoafWed.BAD);
        due("25: crusts(6, 0)", x.crusts(6, 0), LoafWed.BAD);
        due("25: crusts(-1, 0)", x.crusts(-1, 0), LoafWed.BAD);
        due("25: refused", x.status(0), 5);
    }

    private static void chance(LoafWed x, int pair, int t, int c, long above, long below) {
        String call = "26: mice(" + pair + ", " + t + ", " + c + ")";
        due(call, x.mice(pair, t, c), 1);
        due(call + " above", x.part(0), above);
        due(call + " below", x.part(1), below);
    }

    private static void mice() {
        LoafWed x = new LoafWed();
        due("26: no pair", x.mice(0, 0, 0), LoafWed.BAD);
        x.pair(0, 3);
        x.pair(0, 0);
        x.pair(1, 60);
        x.pair(0, 12);
        x.pair(0, 13);
        x.pair(0, 60);
        chance(x, 0, 0, 10, 1, 1);
        chance(x, 1, 5, 0, 0, 1);
        chance(x, 0, 1, 10, 1, 1);
        chance(x, 0, 2, 10, 0, 1);
        // Two loaves go in two years; one is left only if no mouse came in either.
        chance(x, 0, 2, 3, 49, 100);
        chance(x, 0, 2, 5, 1, 4);
        chance(x, 0, 3, 5, 0, 1);
        chance(x, 3, 12, 1, 0, 1);
        chance(x, 4, 12, 1, 282429536481L, 1000000000000L);
        chance(x, 5, 12, 10, 1, 1);
        chance(x, 2, 12, 7, 1, 1);
        x.year(2);
        x.dry(4);
        // Of 11 ten go in years 2 to 10 (two in year 2); one is left if no mouse came in nine years.
        chance(x, 4, 10, 0, 0, 1);
        chance(x, 4, 9, 2, 262144, 1953125);
        long above = x.part(0);
        due("26: t of 13", x.mice(0, 13, 0), LoafWed.BAD);
        due("26: t of -1", x.mice(0, -1, 0), LoafWed.BAD);
        due("26: c of 11", x.mice(0, 0, 11), LoafWed.BAD);
        due("26: c of -1", x.mice(0, 0, -1), LoafWed.BAD);
        due("26: mice(6, 0, 0)", x.mice(6, 0, 0), LoafWed.BAD);
        due("26: mice(-1, 0, 0)", x.mice(-1, 0, 0), LoafWed.BAD);
        due("26: the fraction stays", x.part(0), above);
        due("26: refused", x.status(0), 7);
        x.valley();
        x.damp(4095);
        x.dry(4095);
        x.pair(3, 60);
        chance(x, 0, 12, 10, 0, 1);
        chance(x, 0, 12, 1, 999999999999L, 1000000000000L);
        chance(x, 0, 12, 0, 1, 1);
    }

    private static void years() {
        LoafWed x = new LoafWed();
        due("27: none", x.years(999999, 60, 100), 0);
        x.pair(0, 0);
        x.pair(0, 30);
        x.pair(0, 5);
        due("27: no year", x.years(1, 0, 100), 35);
        due("27: w of 0", x.years(1, 4, 0), 27);
        due("27: w of 100", x.years(1, 4, 100), 22);
        due("27: none below 0", x.years(1, 60, 100), 0);
        // X of SEED 0 is 12345, 1406932606, 654583775, 1449466924: 0, 68, 88, 17 of a hundred.
        due("27: w of 68, pair 1", x.years(0, 1, 68), 33);
        due("27: w of 69, pair 1", x.years(0, 1, 69), 32);
        due("27: w of 88, pair 2", x.years(0, 1, 88), 32);
        due("27: w of 89, pair 2", x.years(0, 1, 89), 31);
        due("27: each year, for each pair, the next X", x.years(0, 4, 15), 27 - drawn(0, 4, 15));
        due("27: the last one may go", x.years(1, 30, 100), 0);
        due("27: seed of -1", x.years(-1, 0, 0), LoafWed.BAD);
        due("27: seed of 1000000", x.years(1000000, 0, 0), LoafWed.BAD);
        due("27: n of -1", x.years(0, -1, 0), LoafWed.BAD);
        due("27: n of 61", x.years(0, 61, 0), LoafWed.BAD);
        due("27: w of -1", x.years(0, 0, -1), LoafWed.BAD);
        due("27: w of 101", x.years(0, 0, 101), LoafWed.BAD);
        due("27: refused", x.status(0), 6);
        due("27: loaves stay", x.count(3), 35);
    }

    /** How many of the draws for pairs 1 and 2 of three are below w. */
    private static int drawn(long seed, int n, int w) {
        long x = seed;
        int below = 0;
        for (int draw = 0; draw < 3 * n; draw++) {
            x = (x * 1103515245L + 12345L) & 0x7fffffffL;
            below += draw % 3 != 0 && (x >> 16) % 100 < w ? 1 : 0;
        }
        return below;
    }

    private static void nothingChanges() {
        LoafWed x = new LoafWed();
        Check.read(x, "valley;pair 0 9;pair 4 30;pair 1 5;kin 5;kin 9;dry 3;damp 4;");
        x.year(2);
        x.counted(0, 3, 3);
        long before = x.digest();
        x.is(0);
        x.next(1);
        x.swapped(-1);
        x.swapped(0);
        x.back();
        x.crusts(1, 1);
        x.years(7, 9, 50);
        due("21 to 27: nothing is changed", x.digest(), before);
    }
}
