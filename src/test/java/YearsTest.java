/** Promises 10 to 13: year, give, undo, of. */
public final class YearsTest {
    private static final Check CHECK = new Check();
    /** How many loaves go in years 0 to 11, by kind; year 2 and 4 damp, years 2, 3 and 9 dry. */
    private static final int[][] GOES = {
        {1, 1, 2, 2, 1, 1, 1, 1, 1, 2, 1, 1},
        {1, 0, 2, 0, 1, 0, 1, 0, 1, 0, 1, 0},
        {1, 1, 2, 2, 3, 1, 1, 1, 1, 4, 1, 1},
        {1, 1, 4, 2, 2, 1, 1, 1, 1, 2, 1, 1},
        {1, 1, 3, 2, 3, 2, 1, 1, 2, 4, 1, 2},
        {0, 0, 1, 0, 1, 0, 0, 0, 0, 0, 0, 0},
    };

    public static void main(String[] args) {
        kinds();
        year();
        give();
        undo();
        undoIsCutOff();
        of();
        CHECK.end("YearsTest");
    }

    private static void due(String call, long got, long want) {
        CHECK.due(call, got, want);
    }

    private static void kinds() {
        LoafWed x = new LoafWed();
        for (int kind = 0; kind < 6; kind++) {
            x.pair(kind, 60);
        }
        x.damp(1 << 2 | 1 << 4);
        x.dry(1 << 2 | 1 << 3 | 1 << 9);
        int[] have = {60, 60, 60, 60, 60, 60};
        for (int year = 0; year < 12; year++) {
            for (int kind = 0; kind < 6; kind++) {
                due("10, 13: kind " + kind + " in year " + year, x.of(kind, 4), GOES[kind][year]);
                have[kind] -= GOES[kind][year];
            }
            due("10: none ends", x.year(1), 0);
            for (int kind = 0; kind < 6; kind++) {
                due("10: left of kind " + kind + " behind year " + year, x.of(kind, 1), have[kind]);
            }
        }
    }

    private static void year() {
        LoafWed x = new LoafWed();
        due("10: year(0)", x.year(0), LoafWed.BAD);
        due("10: year(61)", x.year(61), LoafWed.BAD);
        due("10: year(-1)", x.year(-1), LoafWed.BAD);
        due("10: stays", x.count(2), 0);
        x.pair(0, 0);
        x.pair(0, 1);
        x.pair(2, 5);
        x.pair(0, 60);
        due("10: who has none never was", x.year(1), 2);
        due("10: two more", x.year(3), 0);
        due("10: three go of one that is there", x.of(2, 1), 1);
        due("10: no more than there are", x.year(1), 4);
        due("10: none below 0", x.of(2, 1), 0);
        due("10: ended nowhere", x.of(0, 3), LoafWed.NONE);
        due("10: ended in 0", x.of(1, 3), 0);
        due("10: ended in 4", x.of(2, 3), 4);
        due("10: year(60)", x.year(60), 8);
        due("10: ended in 59", x.of(3, 3), 59);
        due("10: the year", x.count(2), 65);
        due("10: none ends again", x.year(60), 0);
        x.pair(0, 1);
        x.pair(0, 1);
        due("10: two end in one year", x.year(1), 16 + 32);
        due("10: refused", x.status(0), 3);
    }

    private static void give() {
        LoafWed x = new LoafWed();
        due("11: no pair", x.give(0, 1), -10);
        x.pair(0, 10);
        x.pair(0, 0);
        due("11: no pair", x.give(2, 1), -10);
        due("11: no pair", x.give(-1, 1), -10);
        due("11: give(0, 61)", x.give(0, 61), -10);
        due("11: give(0, -61)", x.give(0, -61), -10);
        due("11: counts as BAD", x.status(0), 5);
        due("11: given", x.give(0, 50), 60);
        due("11: more than 60", x.give(0, 1), LoafWed.NO);
        due("11: less than 1", x.give(0, -60), LoafWed.NO);
        due("11: taken", x.give(0, -59), 1);
        due("11: 0 are given", x.give(0, 0), 1);
        due("11: it has none", x.give(1, 5), LoafWed.NO);
        due("11: it has none", x.give(1, 0), LoafWed.NO);
        due("11: counts as NO", x.status(1), 4);
        due("11: each that was given may be undone", x.count(5), 3);
        x.year(1);
        due("11: it has none left", x.give(0, 5), LoafWed.NO);
        due("11: BAD is ahead of NO", x.give(1, 61), -10);
    }

    private static void undo() {
        LoafWed x = new LoafWed();
        due("12: none", x.undo(), LoafWed.NO);
        x.pair(0, 2);
        x.pair(0, 9);
        x.year(1);
        x.give(1, 20);
        x.kin(3);
        x.damp(5);
        x.dry(8);
        x.counted(0, 1, 1);
        due("12: it ends", x.year(1), 1);
        due("12: three may be", x.count(5), 3);
        due("12: the year", x.undo(), 1);
        due("12: it has one again", x.of(0, 1), 1);
        due("12: it has not ended", x.of(0, 3), LoafWed.NONE);
        due("12: loaves that were given stay yet", x.of(1, 1), 28);
        due("12: what was given", x.undo(), 1);
        due("12: they are taken back", x.of(1, 1), 8);
        due("12: the first year", x.undo(), 0);
        due("12: loaves", x.count(3), 11);
        due("12: none more", x.undo(), LoafWed.NO);
        due("12: kin stay", x.count(1), 1);
        due("12: counted stay", x.count(4), 1);
        due("12: damp stays", x.damp(0), 5);
        due("12: dry stays", x.dry(0), 8);
        due("12: refused", x.status(1), 2);
    }

    private static void undoIsCutOff() {
        LoafWed x = new LoafWed();
        x.pair(0, 60);
        x.year(60);
        due("12: eight at most", x.count(5), 8);
        for (int year = 59; year > 51; year--) {
            due("12: undo", x.undo(), year);
            due("12: loaves", x.of(0, 1), 60 - year);
        }
        due("12: no ninth", x.undo(), LoafWed.NO);
        x.give(0, 3);
        x.year(1);
        due("12: two", x.count(5), 2);
        due("12: a refused pair cuts nothing off", x.pair(9, 9), LoafWed.BAD);
        due("12: two", x.count(5), 2);
        x.pair(0, 4);
        due("12: none behind a pair", x.count(5), 0);
        due("12: none behind a pair", x.undo(), LoafWed.NO);
    }

    private static void of() {
        LoafWed x = new LoafWed();
        due("13: no pair", x.of(0, 0), -10);
        x.year(4);
        x.pair(4, 1);
        due("13: kind", x.of(0, 0), 4);
        due("13: loaves", x.of(0, 1), 1);
        due("13: since", x.of(0, 2), 4);
        due("13: ended", x.of(0, 3), LoafWed.NONE);
        due("13: more go than there are", x.of(0, 4), 3);
        x.year(1);
        due("13: ended", x.of(0, 3), 4);
        due("13: of one that has none", x.of(0, 4), 2);
        due("13: of(0, 5)", x.of(0, 5), -10);
        due("13: of(0, -1)", x.of(0, -1), -10);
        due("13: of(1, 0)", x.of(1, 0), -10);
        due("13: of(-1, 0)", x.of(-1, 0), -10);
        due("13: refused", x.status(0), 5);
    }
}
