import java.math.BigInteger;

/** The edges that the document names of counted, is, next, swapped, back, crusts, mice and years, each by its own words. */
public final class CountedEdgesTest {
    private static final Check CHECK = new Check();
    private static final int PLAIN = 0;
    private static final int RICH = 1;
    private static final int QUARREL = 2;
    private static final int MISERS = 5;

    public static void main(String[] args) {
        counted();
        forget();
        is();
        isOfAll();
        next();
        nextNone();
        nextByLeft();
        swapped();
        swappedInEachOthersStead();
        backAlone();
        backAheadOfWhatGoes();
        backSixtyAtMost();
        crusts();
        miceEnds();
        miceIfThereIsOne();
        miceApart();
        yearsEnds();
        yearsBySeed();
        yearsIfThereIsOne();
        CHECK.end("CountedEdgesTest");
    }

    private static void due(String call, long got, long want) {
        CHECK.due(call, got, want);
    }

    private static LoafWed pairs(int kind, int... loaves) {
        LoafWed x = new LoafWed();
        for (int n : loaves) {
            x.pair(kind, n);
        }
        return x;
    }

    private static void counted() {
        CHECK.says("COUNTED 0 .. 7, as they come: a PAIR had v LOAVES (0 .. 60) behind m YEARS (0 .. 60) from now.");
        LoafWed x = pairs(PLAIN, 60, 0);
        due("m of -1", x.counted(0, -1, 0), -2);
        due("m of 61", x.counted(0, 61, 0), -2);
        due("v of -1", x.counted(0, 0, -1), -2);
        due("v of 61", x.counted(0, 0, 61), -2);
        due("pair 2", x.counted(2, 0, 0), -2);
        due("none came", x.count(4), 0);
        due("least", x.counted(0, 0, 60), 1);
        due("most", x.counted(1, 60, 0), 2);
        due("all so", x.is(0) + 100 * x.is(1), 6363);
        for (int c = 3; c <= 8; c++) {
            due("one may be counted twice", x.counted(0, 0, 60), c);
        }
        due("a 9th", x.counted(0, 0, 60), -4);
        due("all so still", x.is(0), 63);
        due("a year goes by", x.year(1), 0);
        due("from now: it has 59 now", x.is(0), 0);
        x.undo();
        due("from now: it has 60 again", x.is(0), 63);
    }

    private static void forget() {
        CHECK.says("No COUNTED: how many there were.");
        LoafWed x = pairs(PLAIN, 5);
        due("none", x.forget(), 0);
        for (int c = 0; c < 8; c++) {
            x.counted(0, 0, 9);
        }
        due("none fits", x.is(0), 0);
        due("eight", x.forget(), 8);
        due("none", x.forget(), 0);
        due("all fit again", x.is(0), 63);
        due("from 1 on", x.counted(0, 0, 5), 1);
    }

    private static void is() {
        CHECK.says("IS: KINDS (bits) by which, were a PAIR of it, all COUNTED of it are so.");
        int[] left60 = {0, 30, 0, 0, 0, 54};
        int[] fits = {29, 2, 29, 29, 29, 32};
        for (int kind = 0; kind < 6; kind++) {
            LoafWed x = pairs(kind, 60);
            x.counted(0, 60, left60[kind]);
            due("behind 60, of kind " + kind, x.is(0), fits[kind]);
            due("its kind stays", x.of(0, 0), kind);
            x.counted(0, 59, 0);
            due("and 0 behind 59, of kind " + kind, x.is(0), kind == RICH || kind == MISERS ? 0 : 20);
        }
        LoafWed x = pairs(PLAIN, 60);
        x.counted(0, 0, 60);
        due("60 now", x.is(0), 63);
        x.counted(0, 0, 59);
        due("and 59 now", x.is(0), 0);
    }

    private static void isOfAll() {
        LoafWed x = pairs(PLAIN, 9, 9);
        for (int c = 0; c < 7; c++) {
            x.counted(0, 0, 9);
            due("is(0)", x.is(0), 63);
        }
        x.counted(0, 1, 9);
        due("the eighth is looked at", x.is(0), 32);
        due("the other has none of them", x.is(1), 63);
        x.forget();
        x.counted(1, 0, 1);
        due("the other's are not its own", x.is(0), 63);
        due("none fits", x.is(1), 0);
        x = pairs(PLAIN, 0);
        x.counted(0, 60, 0);
        due("none behind 60 of none", x.is(0), 63);
    }

    private static void next() {
        CHECK.says("COUNT NEXT of a PAIR: in how many YEARS (0 .. 60) the most of these KINDS that have alike are fewest; of like ones the first; none: no KIND.");
        LoafWed x = pairs(PLAIN, 0, 1, 60);
        due("of none, all alike ever", x.next(0), 0);
        // Behind 1 all but misers have none; behind no other year fewer are alike.
        due("of one", x.next(1), 1);
        // Behind 5: 55, 57, 53, 55, 52, 59; before, three are alike.
        due("of 60", x.next(2), 5);
        x.counted(2, 1, 60);
        due("one kind fits", x.next(2), 0);
        x.forget();
        x.counted(2, 2, 59);
        due("rich alone fits", x.next(2), 0);
        x.forget();
        x.counted(2, 5, 55);
        due("plain and damp house never differ", x.next(2), 0);
        x.damp(1 << 11);
        due("they differ in year 11", x.next(2), 12);
    }

    private static void nextNone() {
        LoafWed x = pairs(PLAIN, 20, 20);
        x.counted(0, 0, 19);
        due("no kind", x.next(0), -1);
        due("of the other all", x.next(1), 5);
        x.forget();
        due("forgotten", x.next(0), 5);
        due("NONE is no refusal", x.status(0) + x.status(1) + x.status(2), 0);
    }

    /** The same asked of six pairs, one of each kind, by left alone. */
    private static int byLeft(LoafWed six, int kinds) {
        int best = -1;
        int fewest = 7;
        for (int m = 0; m <= 60; m++) {
            int[] alike = new int[61];
            int most = 0;
            for (int kind = 0; kind < 6; kind++) {
                if ((kinds >> kind & 1) == 1) {
                    int left = six.left(kind, m);
                    alike[left]++;
                    most = Math.max(most, alike[left]);
                }
            }
            if (most < fewest) {
                best = m;
                fewest = most;
            }
        }
        return best;
    }

    private static void nextByLeft() {
        // Damp, dry, year, loaves; the last answers 24, the latest that was found.
        int[][] valleys = {{0, 0, 0, 60}, {4095, 0, 1, 60}, {256, 0, 35, 60}, {512, 30, 34, 39}, {2858, 2210, 36, 37},
            {0, 4095, 4, 1}, {0, 4095, 4, 2}, {1, 2, 3, 4}, {2320, 3409, 53, 60}, {528, 1556, 51, 60}};
        for (int[] v : valleys) {
            LoafWed six = new LoafWed();
            six.damp(v[0]);
            six.dry(v[1]);
            if (v[2] > 0) {
                six.year(v[2]);
            }
            for (int kind = 0; kind < 6; kind++) {
                six.pair(kind, v[3]);
            }
            due("all kinds, of " + v[3] + " in " + v[2], six.next(3), byLeft(six, 63));
        }
        LoafWed last = pairs(PLAIN);
        last.damp(528);
        last.dry(1556);
        last.year(51);
        last.pair(QUARREL, 60);
        due("the latest", last.next(0), 24);
    }

    private static void swapped() {
        CHECK.says("SWAPPED: PAIRS i less than j whose LOAVES, were they in each other's stead now, make all COUNTED so: how many; the k-th (10 i and j).");
        LoafWed x = new LoafWed();
        for (int p = 0; p < 6; p++) {
            due(p + " pairs, how many", x.swapped(-1), p * (p - 1) / 2);
            due(p + " pairs, not so many", x.swapped(p * (p - 1) / 2), -5);
            x.pair(p, 10 * p + 10);
        }
        due("how many", x.swapped(-1), 15);
        int k = 0;
        for (int i = 0; i < 6; i++) {
            for (int j = i + 1; j < 6; j++) {
                due("the " + k + "-th", x.swapped(k), 10 * i + j);
                k++;
            }
        }
        due("not so many", x.swapped(15), -5);
        due("far from so many", x.swapped(Integer.MAX_VALUE), -5);
        due("k of -2", x.swapped(-2), -10);
        x.counted(0, 0, 60);
        x.counted(5, 0, 10);
        due("the first and the last", x.swapped(-1), 1);
        due("the first and the last", x.swapped(0), 5);
        due("not so many", x.swapped(1), -5);
        x.forget();
        x.counted(4, 0, 60);
        x.counted(5, 0, 50);
        due("the last two", x.swapped(0), 45);
        due("not so many", x.swapped(1), -5);
    }

    private static void swappedInEachOthersStead() {
        LoafWed x = pairs(RICH, 20);
        x.pair(PLAIN, 8);
        x.pair(PLAIN, 0);
        x.pair(PLAIN, 20);
        x.counted(0, 4, 6);
        due("8 in rich hands", x.swapped(0), 1);
        x.counted(1, 4, 16);
        due("20 in plain hands", x.swapped(0), 1);
        due("no more", x.swapped(-1), 1);
        x.forget();
        x.counted(2, 60, 8);
        due("none can", x.swapped(-1), 0);
        x.forget();
        x.counted(2, 0, 8);
        due("one that has none may have them", x.swapped(0), 12);
        x.forget();
        x.counted(0, 0, 20);
        x.counted(3, 0, 20);
        // 0 with 3, as both have 20, and 1 with 2, of which none was counted.
        due("like ones, and others", x.swapped(-1), 2);
        due("like ones", x.swapped(0), 3);
        due("others", x.swapped(1), 12);
        for (int c = 0; c < 6; c++) {
            x.counted(1, 0, 8);
        }
        due("the eighth is looked at", x.swapped(-1), 1);
        due("loaves stay", x.of(0, 1) * 100 + x.of(1, 1), 2008);
    }

    private static void backAlone() {
        CHECK.says("PUTS BACK: PAIRS (bits) each of which, were somebody to put 1 LOAF to it alone in each YEAR");
        LoafWed x = new LoafWed();
        due("no pairs", x.back(), 0);
        for (int p = 0; p < 6; p++) {
            x.pair(PLAIN, 20);
        }
        due("nothing counted", x.back(), 63);
        x.counted(5, 3, 20);
        due("the last alone", x.back(), 32);
        x.counted(5, 60, 20);
        due("in each year", x.back(), 32);
        x.counted(0, 3, 17);
        due("the first as it is", x.back(), 32);
        x.counted(4, 3, 20);
        due("two would be needed", x.back(), 0);
        x.forget();
        x.counted(0, 0, 20);
        due("behind 0 years none is put", x.back(), 63);
        for (int c = 0; c < 6; c++) {
            x.counted(0, 0, 20);
        }
        x.counted(3, 1, 20);
        due("the eighth is looked at", x.back(), 8);
    }

    private static void backAheadOfWhatGoes() {
        CHECK.says("(ahead of what goes, if it has LOAVES; 60 at most)");
        LoafWed x = pairs(PLAIN, 1, 0);
        x.counted(0, 1, 1);
        due("one comes ahead of the one that goes", x.back(), 1);
        x.counted(0, 60, 1);
        due("so it never ends", x.back(), 1);
        x.dry(1 << 5);
        due("two go in year 5", x.back(), 0);
        x.forget();
        x.counted(0, 5, 1);
        x.counted(0, 6, 0);
        x.counted(0, 60, 0);
        due("it ended, so none is put to it", x.back(), 1);
        x.forget();
        x.counted(1, 60, 0);
        due("one that has none", x.back(), 3);
        x.counted(1, 60, 1);
        due("none is put to one that has none", x.back(), 0);
    }

    private static void backSixtyAtMost() {
        LoafWed x = pairs(PLAIN, 60, 59);
        x.counted(0, 1, 59);
        due("59, put or not", x.back(), 3);
        x.counted(0, 2, 59);
        due("59 again, if put", x.back(), 1);
        x.counted(0, 60, 59);
        due("59 ever", x.back(), 1);
        x.forget();
        x.counted(1, 1, 59);
        due("59 becomes 60, of which one goes", x.back(), 2);
        x = pairs(MISERS, 60, 58);
        x.counted(0, 4, 60);
        due("never 61, put or not", x.back(), 3);
        x.counted(0, 6, 60);
        due("the feast's is put back behind it", x.back(), 1);
        x.forget();
        x.counted(1, 1, 59);
        x.counted(1, 2, 60);
        x.counted(1, 3, 60);
        due("up to 60", x.back(), 2);
    }

    private static void crusts() {
        CHECK.says("(1, 0; with no LOAVES who begins has won); how many that one should break off first (the least by which it can be won; 0: it can not, or there are none)");
        boolean[] wins = new boolean[61];
        wins[0] = true;
        LoafWed x = pairs(PLAIN, 60, 0);
        due("none, whether", x.crusts(1, 0), 1);
        due("none, how many", x.crusts(1, 1), 0);
        int[] first = new int[61];
        for (int n = 1; n <= 60; n++) {
            for (int broken = Math.min(3, n); broken >= 1; broken--) {
                if (!wins[n - broken]) {
                    wins[n] = true;
                    first[n] = broken;
                }
            }
        }
        for (int n = 60; n >= 1; n--) {
            due("of " + n + ", whether", x.crusts(0, 0), wins[n] ? 1 : 0);
            due("of " + n + ", how many", x.crusts(0, 1), first[n]);
            x.year(1);
        }
        due("it ended, whether", x.crusts(0, 0), 1);
        due("it ended, how many", x.crusts(0, 1), 0);
    }

    private static void chance(LoafWed x, int pair, int t, int c, long above, long below) {
        String call = "mice(" + pair + ", " + t + ", " + c + ")";
        due(call, x.mice(pair, t, c), 1);
        due(call + " above", x.part(0), above);
        due(call + " below", x.part(1), below);
    }

    private static void miceEnds() {
        CHECK.says("the chance that a PAIR has LOAVES behind t YEARS (0 .. 12): THE FRACTION.");
        LoafWed x = pairs(PLAIN, 60, 0, 1, 12, 13, 24);
        chance(x, 0, 0, 0, 1, 1);
        chance(x, 0, 0, 10, 1, 1);
        chance(x, 1, 0, 10, 0, 1);
        chance(x, 1, 12, 0, 0, 1);
        chance(x, 2, 0, 10, 1, 1);
        chance(x, 2, 1, 0, 0, 1);
        chance(x, 3, 11, 0, 1, 1);
        chance(x, 3, 12, 0, 0, 1);
        chance(x, 4, 12, 0, 1, 1);
        chance(x, 4, 12, 9, 1, 1000000000000L);
        chance(x, 4, 12, 5, 1, 4096);
        // 24 end only if mice come in all twelve years.
        chance(x, 5, 12, 10, 0, 1);
        chance(x, 5, 12, 1, 999999999999L, 1000000000000L);
        chance(x, 0, 12, 10, 1, 1);
        due("t of 13", x.mice(0, 13, 0), -2);
        due("t of -1", x.mice(0, -1, 0), -2);
        due("c of 11", x.mice(0, 0, 11), -2);
        due("c of -1", x.mice(0, 0, -1), -2);
    }

    private static void miceIfThereIsOne() {
        CHECK.says("in each YEAR, behind what goes, 1 LOAF more (if there is one) is eaten by c of 10 (0 .. 10), apart");
        LoafWed x = pairs(PLAIN, 1, 2, 3);
        chance(x, 0, 1, 10, 0, 1);
        chance(x, 0, 2, 10, 0, 1);
        chance(x, 1, 1, 3, 7, 10);
        chance(x, 1, 1, 10, 0, 1);
        chance(x, 1, 1, 0, 1, 1);
        chance(x, 2, 1, 10, 1, 1);
        x = pairs(3, 60);
        x.damp(4095);
        x.dry(4095);
        // Four go a year, so that of 60 mice in all twelve years would leave none.
        chance(x, 0, 12, 10, 0, 1);
        chance(x, 0, 12, 5, 4095, 4096);
        chance(x, 0, 11, 10, 1, 1);
        x = pairs(MISERS, 1, 2);
        chance(x, 0, 4, 10, 0, 1);
        chance(x, 0, 4, 1, 6561, 10000);
        chance(x, 1, 2, 10, 0, 1);
        chance(x, 1, 2, 1, 99, 100);
        due("no loaf is eaten in truth", x.count(3), 3);
    }

    private static void miceApart() {
        LoafWed x = pairs(PLAIN, 4);
        // Behind two years two are left, of which mice eat none, one or two: 1/4, 1/2, 1/4.
        chance(x, 0, 2, 5, 3, 4);
        // Behind three years one is left only if none was eaten.
        chance(x, 0, 3, 5, 1, 8);
        chance(x, 0, 3, 4, 27, 125);
        x.dry(1);
        chance(x, 0, 2, 5, 1, 4);
        x.year(1);
        chance(x, 0, 1, 2, 4, 5);
        chance(x, 0, 1, 10, 0, 1);
    }

    private static void yearsEnds() {
        CHECK.says("YEARS by a SEED (0 .. 999999), n (0 .. 60), w (0 .. 100)");
        LoafWed x = pairs(MISERS, 60, 60);
        due("no year", x.years(999999, 0, 100), 120);
        due("one year, all", x.years(999999, 1, 100), 118);
        due("one year, none", x.years(999999, 1, 0), 120);
        due("60 years, none", x.years(0, 60, 0), 108);
        due("60 years, all", x.years(0, 60, 100), 0);
        due("27 years, all", x.years(0, 27, 100), 2 * (60 - 3 - 27));
        due("seed of 1000000", x.years(1000000, 1, 1), -2);
        due("seed of -1", x.years(-1, 1, 1), -2);
        due("n of 61", x.years(1, 61, 1), -2);
        due("n of -1", x.years(1, -1, 1), -2);
        due("w of 101", x.years(1, 1, 101), -2);
        due("w of -1", x.years(1, 1, -1), -2);
        due("no pairs", new LoafWed().years(999999, 60, 100), 0);
    }

    /** How many draws of so many are less than w, by whole numbers of any size. */
    private static int less(int seed, int draws, int w) {
        BigInteger x = BigInteger.valueOf(seed);
        int found = 0;
        for (int draw = 0; draw < draws; draw++) {
            x = x.multiply(BigInteger.valueOf(1103515245)).add(BigInteger.valueOf(12345)).mod(BigInteger.valueOf(2147483648L));
            int hundred = x.divide(BigInteger.valueOf(65536)).mod(BigInteger.valueOf(100)).intValue();
            found += hundred < w ? 1 : 0;
        }
        return found;
    }

    private static void yearsBySeed() {
        CHECK.says("X becomes X times 1103515245 and 12345, by 2147483648 what is left over; X by 65536 (cut), by 100 left over, less than w: 1 LOAF more goes");
        for (int seed : new int[] {0, 1, 65535, 65536, 123456, 999998, 999999}) {
            LoafWed x = pairs(MISERS, 60, 60, 60, 60, 60, 60);
            for (int w : new int[] {0, 1, 2, 49, 50, 51, 80}) {
                // By kind six go of each in 60 years; none runs out by so small a w.
                due("years(" + seed + ", 60, " + w + ")", x.years(seed, 60, w), 6 * 54 - less(seed, 360, w));
            }
            for (int w = 0; w <= 100; w++) {
                due("years(" + seed + ", 3, " + w + ")", x.years(seed, 3, w), 360 - less(seed, 18, w));
            }
        }
    }

    private static void yearsIfThereIsOne() {
        CHECK.says("1 LOAF more goes, behind what goes (if there is one): LOAVES of all PAIRS then.");
        LoafWed x = pairs(PLAIN, 1, 2, 3, 0, 60);
        due("the last one goes by kind, or by the seed", x.years(7, 1, 100), 59);
        due("two years", x.years(7, 2, 100), 56);
        due("by kind alone", x.years(7, 1, 0), 62);
        due("loaves stay", x.count(3), 66);
        x.dry(1);
        due("a dry year", x.years(7, 1, 100), 57);
        x.year(1);
        due("from now", x.years(7, 1, 100), 56);
    }
}
