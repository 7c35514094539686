/** The edges that the document names of left, till, together, gifts and drought, each by its own words. */
public final class ComesEdgesTest {
    private static final Check CHECK = new Check();
    private static final int PLAIN = 0;
    private static final int RICH = 1;
    private static final int QUARREL = 2;
    private static final int MISERS = 5;

    public static void main(String[] args) {
        left();
        till();
        tillEnded();
        together();
        togetherOfLikeOnes();
        togetherNone();
        giftsForYears();
        giftsAllOrNothing();
        giftsToWhoHasNone();
        giftsMoreThanSixty();
        giftsFirstRow();
        giftsNone();
        drought();
        droughtOfLikeOnes();
        droughtNone();
        CHECK.end("ComesEdgesTest");
    }

    private static void due(String call, long got, long want) {
        CHECK.due(call, got, want);
    }

    private static LoafWed pairs(int kind, int... loaves) {
        LoafWed x = new LoafWed();
        for (int n : loaves) {
            x.pair(kind, n);
        }
        return x;
    }

    private static void left() {
        CHECK.says("LEFT of a PAIR behind m YEARS (0 .. 99).");
        LoafWed x = pairs(RICH, 60, 1, 0);
        due("behind 0", x.left(0, 0), 60);
        due("behind 1", x.left(0, 1), 59);
        due("behind 98", x.left(0, 98), 11);
        due("behind 99", x.left(0, 99), 10);
        due("behind 100", x.left(0, 100), -2);
        due("behind -1", x.left(0, -1), -2);
        due("one alone, behind 0", x.left(1, 0), 1);
        due("one alone, behind 1", x.left(1, 1), 0);
        due("none below 0", x.left(1, 99), 0);
        due("of none", x.left(2, 0), 0);
        due("of none", x.left(2, 99), 0);
        x.year(1);
        due("from year 1 on, behind 99", x.left(0, 99), 10);
        due("from year 1 on, behind 98", x.left(0, 98), 10);
        due("from year 1 on, behind 97", x.left(0, 97), 11);
    }

    private static void till() {
        CHECK.says("TILL: the YEAR in which a PAIR ENDS, of the next 99");
        LoafWed x = pairs(RICH, 1, 49, 50, 51, 0);
        due("this year", x.till(0), 0);
        due("the 97th", x.till(1), 96);
        due("the 99th", x.till(2), 98);
        due("the 101st", x.till(3), -1);
        due("never was", x.till(4), -1);
        x.year(1);
        due("the 98th now", x.till(2), 98);
        due("the 100th now", x.till(3), -1);
        x.year(1);
        due("the 99th now", x.till(3), 100);
        x = pairs(PLAIN, 60);
        due("60 in years that are not dry", x.till(0), 59);
        x.dry(4095);
        due("60 in dry years", x.till(0), 29);
        x = pairs(MISERS, 10, 11);
        due("in year 94", x.till(0), 94);
        due("in year 104, too late", x.till(1), -1);
    }

    private static void tillEnded() {
        CHECK.says("(one that ENDED: that YEAR); none.");
        LoafWed x = pairs(PLAIN, 1, 2, 60);
        x.year(2);
        due("it ended in 0", x.till(0), 0);
        due("it ended in 1", x.till(1), 1);
        due("it will", x.till(2), 59);
        x.year(60);
        x.year(60);
        x.year(60);
        due("long ago", x.till(0), 0);
        due("long ago", x.till(2), 59);
        x = pairs(PLAIN, 1);
        x.year(1);
        x.undo();
        x.give(0, 4);
        due("undone, it ends later", x.till(0), 4);
    }

    private static void together() {
        CHECK.says("TOGETHER: the YEAR of the next 99 in which most PAIRS END (two at least; of like ones the first): which YEAR, which PAIRS (bits); none.");
        LoafWed x = pairs(PLAIN, 60, 60, 60, 60, 60, 60);
        due("six", x.together(0), 59);
        due("six", x.together(1), 63);
        x = pairs(RICH, 50, 50, 51, 51, 51);
        due("the 99th", x.together(0), 98);
        due("the 99th", x.together(1), 3);
        x.year(1);
        due("the 98th", x.together(0), 98);
        due("the 100th is too late", x.together(1), 3);
        x.year(1);
        due("the 99th", x.together(0), 100);
        due("the 99th", x.together(1), 28);
        x = pairs(PLAIN, 1, 1);
        due("this year", x.together(0), 0);
        due("this year", x.together(1), 3);
    }

    private static void togetherOfLikeOnes() {
        CHECK.says("of like ones the first");
        LoafWed x = pairs(PLAIN, 9, 4, 9, 4);
        due("two and two", x.together(0), 3);
        due("two and two", x.together(1), 10);
        x = pairs(PLAIN, 9, 4, 9, 4, 9);
        due("three are more", x.together(0), 8);
        due("three are more", x.together(1), 21);
        x = pairs(PLAIN, 4, 5, 4, 6, 6, 5);
        due("three times two", x.together(0), 3);
        due("three times two", x.together(1), 5);
        x.year(4);
        due("those that ended do no more", x.together(0), 4);
        due("those that ended do no more", x.together(1), 34);
    }

    private static void togetherNone() {
        CHECK.says("in which most PAIRS END (two at least");
        LoafWed x = new LoafWed();
        due("no pair", x.together(0), -1);
        due("no pair", x.together(1), -1);
        x.pair(PLAIN, 5);
        due("one", x.together(0), -1);
        due("one", x.together(1), -1);
        x.pair(PLAIN, 6);
        x.pair(PLAIN, 0);
        x.pair(PLAIN, 0);
        due("each alone, and two that never were", x.together(0), -1);
        due("each alone, and two that never were", x.together(1), -1);
        x.pair(QUARREL, 7);
        due("by another kind", x.together(0), 4);
        due("by another kind", x.together(1), 17);
        x.year(5);
        due("both ended", x.together(0), -1);
        due("both ended", x.together(1), -1);
    }

    private static void answer(LoafWed x, int t, int much, int toA, int toB) {
        due("gifts(0, 1, " + t + ", 0)", x.gifts(0, 1, t, 0), much);
        due("gifts(0, 1, " + t + ", 1)", x.gifts(0, 1, t, 1), toA);
        due("gifts(0, 1, " + t + ", 2)", x.gifts(0, 1, t, 2), toB);
        due("gifts(1, 0, " + t + ", 0)", x.gifts(1, 0, t, 0), much);
    }

    private static void giftsForYears() {
        CHECK.says("GIFTS for PAIRS a, b (unlike) for t YEARS (1 .. 60) from now");
        LoafWed x = pairs(PLAIN, 2, 60);
        x.kin(1);
        answer(x, 1, 0, 0, 0);
        answer(x, 2, 1, 1, 0);
        answer(x, 3, -1, -1, -1);
        x = pairs(PLAIN, 60, 60);
        x.kin(1);
        answer(x, 59, 0, 0, 0);
        answer(x, 60, -1, -1, -1);
        x.kin(1);
        answer(x, 60, 2, 1, 2);
        due("t of 0", x.gifts(0, 1, 0, 0), -2);
        due("t of 61", x.gifts(0, 1, 61, 0), -2);
        due("alike", x.gifts(1, 1, 1, 0), -2);
        x.year(1);
        answer(x, 59, 2, 1, 2);
        answer(x, 58, 0, 0, 0);
    }

    private static void giftsAllOrNothing() {
        CHECK.says("KIN each bring all FLOUR to a, to b, or nothing to any");
        LoafWed x = pairs(PLAIN, 3, 3);
        x.kin(20);
        answer(x, 3, -1, -1, -1);
        x.kin(5);
        answer(x, 3, 25, 1, 2);
        x.kin(5);
        answer(x, 3, 10, 2, 4);
        x.kin(1);
        answer(x, 3, 6, 4, 8);
        CHECK.says("the least FLOUR brought by which both have LOAVES behind t YEARS");
        x = pairs(PLAIN, 1, 60);
        int[] flour = {9, 8, 7, 6, 5, 4, 3, 10};
        for (int n : flour) {
            x.kin(n);
        }
        answer(x, 3, 3, 64, 0);
        answer(x, 10, 10, 128, 0);
        answer(x, 12, 12, 112, 0);
        answer(x, 52, 52, 255, 0);
        answer(x, 53, -1, -1, -1);
    }

    private static void giftsToWhoHasNone() {
        CHECK.says("(one may have LOAVES so that has none, more than 60)");
        LoafWed x = pairs(PLAIN, 0, 1, 9);
        x.year(1);
        due("one ended", x.of(1, 3), 0);
        answer(x, 1, -1, -1, -1);
        x.kin(2);
        x.kin(2);
        answer(x, 1, 4, 1, 2);
        answer(x, 2, -1, -1, -1);
        due("none has them in truth", x.count(3), 8);
        x = pairs(MISERS, 0, 1);
        x.kin(1);
        due("none goes, but one must be there", x.gifts(0, 1, 1, 0), 1);
        due("the other has one", x.gifts(0, 1, 4, 2), 0);
        due("a feast eats both", x.gifts(0, 1, 5, 0), -1);
    }

    private static void giftsMoreThanSixty() {
        LoafWed x = pairs(PLAIN, 60, 60);
        x.dry(4095);
        x.pair(MISERS, 60);
        for (int k = 0; k < 8; k++) {
            x.kin(20);
        }
        due("121 are needed of one", x.gifts(0, 2, 60, 0), 80);
        due("the last four bring", x.gifts(0, 2, 60, 1), 240);
        due("of both", x.gifts(0, 1, 60, 0), 160);
        due("the first four bring to a", x.gifts(0, 1, 60, 1), 15);
        due("the last four bring to b", x.gifts(0, 1, 60, 2), 240);
    }

    private static void giftsFirstRow() {
        CHECK.says("in the first such row (bits; rows by KIN: nothing, a, b); none");
        LoafWed x = pairs(PLAIN, 1, 9);
        for (int k = 0; k < 8; k++) {
            x.kin(3);
        }
        answer(x, 3, 3, 128, 0);
        answer(x, 4, 6, 192, 0);
        x = pairs(PLAIN, 1, 1);
        for (int k = 0; k < 8; k++) {
            x.kin(3);
        }
        answer(x, 3, 6, 64, 128);
        due("b first", x.gifts(1, 0, 3, 1), 64);
        due("b first", x.gifts(1, 0, 3, 2), 128);
        x = pairs(PLAIN, 1, 1);
        x.kin(2);
        x.kin(3);
        x.kin(2);
        answer(x, 2, 4, 1, 4);
        answer(x, 3, 7, 5, 2);
        answer(x, 4, -1, -1, -1);
        x = pairs(PLAIN, 1, 1);
        x.kin(4);
        x.kin(2);
        x.kin(2);
        x.kin(4);
        // Eight are needed; nothing of KIN 0 leaves 2 2 4, of which 2 2 go to a ahead of going to b.
        answer(x, 4, 8, 6, 8);
    }

    private static void giftsNone() {
        CHECK.says("GIFTS: how much (0), to a (1; bits), to b (2; bits). NONE.");
        LoafWed x = pairs(PLAIN, 2, 1);
        answer(x, 1, -1, -1, -1);
        x.kin(1);
        answer(x, 1, 1, 0, 1);
        answer(x, 2, -1, -1, -1);
        x = pairs(PLAIN, 2, 2);
        answer(x, 1, 0, 0, 0);
        due("t of 1 alone is enough", x.gifts(0, 1, 2, 0), -1);
    }

    private static void drought() {
        CHECK.says("DROUGHT: the YEAR of a dozen (0 .. 11) that is not DRY now, which, were it DRY, would make all PAIRS together have fewest LOAVES behind m YEARS (0 .. 60)");
        LoafWed x = pairs(PLAIN, 60);
        x.year(11);
        due("year 11", x.drought(1), 11);
        x.year(1);
        due("year 12 is as year 0", x.drought(1), 0);
        x.year(1);
        due("year 13 is as year 1", x.drought(1), 1);
        x.dry(2);
        due("year 1 is dry now, so none is worse", x.drought(1), 0);
        due("year 2 is the next", x.drought(2), 2);
        due("m of 61", x.drought(61), -2);
        due("m of -1", x.drought(-1), -2);
        x = pairs(MISERS, 60);
        // Misers eat one more in dry years of an even number; in 60 years each comes five times, even 4 and 10, too.
        due("m of 60", x.drought(60), 0);
        x.dry(1);
        due("year 0 is dry now", x.drought(60), 2);
        x.year(1);
        x.dry(0);
        due("an odd year does no harm", x.drought(1), 0);
        due("year 2", x.drought(2), 2);
        due("the 60th year from now is year 60", x.drought(60), 0);
        x = pairs(PLAIN, 1, 1, 1, 1, 1, 2);
        due("the last of six alone could have one more", x.drought(1), 0);
        x.dry(1);
        due("all six have none, whatever is dry", x.drought(1), 1);
        x = pairs(RICH, 60);
        x.pair(PLAIN, 60);
        x.year(3);
        due("year 3 costs one loaf", x.drought(1), 3);
        due("year 4 costs two", x.drought(2), 4);
    }

    private static void droughtOfLikeOnes() {
        CHECK.says("of like ones the first; none: all are DRY");
        LoafWed x = new LoafWed();
        due("no pairs", x.drought(60), 0);
        x.dry(1 + 2 + 4);
        due("no pairs, the first three dry", x.drought(60), 3);
        x.dry(0);
        x.pair(PLAIN, 60);
        due("m of 0", x.drought(0), 0);
        due("a dozen, each once", x.drought(12), 0);
        due("13, year 0 twice", x.drought(13), 0);
        x.year(5);
        due("a dozen from 5 on, each once", x.drought(12), 0);
        due("13 from 5 on, year 5 twice", x.drought(13), 5);
        due("14 from 5 on, years 5 and 6 twice", x.drought(14), 5);
        due("five dozens", x.drought(60), 0);
        x = pairs(PLAIN, 3, 0);
        due("none are left anyway", x.drought(60), 0);
        due("one would be left", x.drought(2), 0);
    }

    private static void droughtNone() {
        LoafWed x = pairs(PLAIN, 60);
        x.dry(4095);
        due("all are dry", x.drought(60), -1);
        due("all are dry, m of 0", x.drought(0), -1);
        for (int d = 0; d < 12; d++) {
            x.dry(4095 - (1 << d));
            due("all but " + d + ", m of 0", x.drought(0), d);
            due("all but " + d + ", m of 60", x.drought(60), d);
        }
    }
}
