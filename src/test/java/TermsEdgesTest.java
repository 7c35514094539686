/** The edges that the document names of years, kinds, pairs and kin, each by its own words. */
public final class TermsEdgesTest {
    private static final Check CHECK = new Check();
    private static final int PLAIN = 0;
    private static final int RICH = 1;
    private static final int QUARREL = 2;
    private static final int DAMP_HOUSE = 3;
    private static final int FRIENDS = 4;
    private static final int MISERS = 5;

    public static void main(String[] args) {
        years();
        dozens();
        toldOfADozen();
        pairs();
        plainAndRich();
        quarrelAndDampHouse();
        friends();
        misers();
        noMoreThanThereAre();
        ends();
        neverWas();
        eachYearMayBeUndone();
        kin();
        valley();
        allCalls();
        CHECK.end("TermsEdgesTest");
    }

    private static void due(String call, long got, long want) {
        CHECK.due(call, got, want);
    }

    private static void years() {
        CHECK.says("YEARS have numbers, 0 at first.");
        LoafWed x = new LoafWed();
        due("at first", x.count(2), 0);
        CHECK.says("The YEAR is one more.");
        due("year(1) without pairs", x.year(1), 0);
        due("then", x.count(2), 1);
        x.year(60);
        due("60 more", x.count(2), 61);
        CHECK.says("A YEAR is a FEAST, if its number by 5 left over is 4");
        x.valley();
        x.pair(QUARREL, 60);
        for (int year = 0; year <= 24; year++) {
            boolean feast = year == 4 || year == 9 || year == 14 || year == 19 || year == 24;
            due("what goes in year " + year, x.of(0, 4), feast ? 3 : 1);
            x.year(1);
        }
    }

    private static void dozens() {
        CHECK.says("DAMP, DRY as told of it by 12 left over");
        LoafWed damp = new LoafWed();
        damp.pair(DAMP_HOUSE, 60);
        damp.damp(1 << 11 | 1);
        LoafWed dry = new LoafWed();
        dry.pair(PLAIN, 60);
        dry.dry(1 << 11 | 1);
        for (int year = 0; year <= 36; year++) {
            boolean told = year % 12 == 0 || year % 12 == 11;
            due("what goes in damp years, " + year, damp.of(0, 4), told ? 2 : 1);
            due("what goes in dry years, " + year, dry.of(0, 4), told ? 2 : 1);
            damp.year(1);
            dry.year(1);
        }
    }

    private static void toldOfADozen() {
        CHECK.says("(bits 0 .. 4095 each; none at first)");
        LoafWed x = new LoafWed();
        due("damp at first", x.damp(4095), 0);
        due("dry at first", x.dry(4095), 0);
        due("damp, all", x.damp(2048), 4095);
        due("dry, all", x.dry(1), 4095);
        due("damp 4096", x.damp(4096), -2);
        due("dry 4096", x.dry(4096), -2);
        due("damp -1", x.damp(-1), -2);
        due("dry -1", x.dry(-1), -2);
        due("damp, the last alone", x.damp(0), 2048);
        due("dry, the first alone", x.dry(0), 1);
        due("damp, none", x.damp(0), 0);
        due("dry, none", x.dry(0), 0);
    }

    private static void pairs() {
        CHECK.says("PAIRS 0 .. 5, as they come: a KIND, LOAVES (0 .. 60), since (the YEAR in which they come).");
        LoafWed x = new LoafWed();
        int[] loaves = {60, 0, 59, 1, 60, 0};
        for (int p = 0; p < 6; p++) {
            due("pair " + p, x.pair(5 - p, loaves[p]), p);
            due("its kind", x.of(p, 0), 5 - p);
            due("its loaves", x.of(p, 1), loaves[p]);
            due("since", x.of(p, 2), 7 * p);
            due("not ended", x.of(p, 3), -1);
            x.year(7);
        }
        due("a 7th", x.pair(0, 1), -4);
        due("six", x.count(0), 6);
        for (int p = 0; p < 6; p++) {
            due("since stays, " + p, x.of(p, 2), 7 * p);
            due("kind stays, " + p, x.of(p, 0), 5 - p);
        }
    }

    /** What goes in a year, with all years told damp, dry, or neither. */
    private static int goes(int kind, int year, int damp, int dry) {
        LoafWed x = new LoafWed();
        x.damp(damp * 4095);
        x.dry(dry * 4095);
        if (year > 0) {
            x.year(year);
        }
        x.pair(kind, 60);
        int told = x.of(0, 4);
        x.year(1);
        due("what went of " + kind + " in " + year, 60 - x.of(0, 1), told);
        return told;
    }

    private static void plainAndRich() {
        CHECK.says("0 PLAIN: 1; 1 more, if it is DRY.");
        for (int year = 0; year < 30; year++) {
            due("neither", goes(PLAIN, year, 0, 0), 1);
            due("damp", goes(PLAIN, year, 1, 0), 1);
            due("dry", goes(PLAIN, year, 0, 1), 2);
            due("both", goes(PLAIN, year, 1, 1), 2);
        }
        CHECK.says("1 RICH (under PLAIN): as PLAIN in YEARS of an even number, else 0.");
        for (int year = 0; year < 30; year += 2) {
            due("even", goes(RICH, year, 0, 0), 1);
            due("even, damp and dry", goes(RICH, year, 1, 1), 2);
            due("odd", goes(RICH, year + 1, 0, 0), 0);
            due("odd, damp and dry", goes(RICH, year + 1, 1, 1), 0);
        }
    }

    private static void quarrelAndDampHouse() {
        CHECK.says("2 QUARREL (under PLAIN): as PLAIN; 2 more at a FEAST.");
        due("ahead of a feast", goes(QUARREL, 3, 0, 0), 1);
        due("a feast", goes(QUARREL, 4, 0, 0), 3);
        due("a dry feast", goes(QUARREL, 4, 0, 1), 4);
        due("a damp feast", goes(QUARREL, 4, 1, 0), 3);
        due("behind a feast", goes(QUARREL, 5, 0, 0), 1);
        due("dry", goes(QUARREL, 5, 0, 1), 2);
        CHECK.says("3 DAMP HOUSE (under PLAIN): as PLAIN; twice that, if it is DAMP.");
        due("neither", goes(DAMP_HOUSE, 4, 0, 0), 1);
        due("damp", goes(DAMP_HOUSE, 4, 1, 0), 2);
        due("dry", goes(DAMP_HOUSE, 4, 0, 1), 2);
        due("both", goes(DAMP_HOUSE, 4, 1, 1), 4);
    }

    private static void friends() {
        CHECK.says("4 FRIENDS of beggars (under QUARREL): as QUARREL, and 1 more, if the number of the YEAR by 3 left over is 2.");
        int[] want = {1, 1, 2, 1, 3, 2, 1, 1, 2, 3, 1, 2, 1, 1, 4, 1, 1, 2, 1, 3};
        for (int year = 0; year < want.length; year++) {
            due("year " + year, goes(FRIENDS, year, 0, 0), want[year]);
            due("dry year " + year, goes(FRIENDS, year, 1, 1), want[year] + 1);
        }
    }

    private static void misers() {
        CHECK.says("5 MISERS (under RICH): as RICH, 1 less, if it is no FEAST, 0 at least.");
        for (int year = 0; year < 20; year++) {
            boolean evenFeast = year == 4 || year == 14;
            due("year " + year, goes(MISERS, year, 1, 0), evenFeast ? 1 : 0);
            due("dry year " + year, goes(MISERS, year, 1, 1), evenFeast ? 2 : year % 2 == 0 ? 1 : 0);
        }
    }

    private static void noMoreThanThereAre() {
        CHECK.says("of each PAIR that has LOAVES as many go as told (no more than there are)");
        for (int loaves = 1; loaves <= 6; loaves++) {
            LoafWed x = new LoafWed();
            x.dry(4095);
            x.year(14);
            x.pair(FRIENDS, loaves);
            due("as told, of " + loaves, x.of(0, 4), 5);
            due("it ends, of " + loaves, x.year(1), loaves <= 5 ? 1 : 0);
            due("left of " + loaves, x.of(0, 1), loaves <= 5 ? 0 : 1);
            due("all that are left of " + loaves, x.count(3), loaves <= 5 ? 0 : 1);
        }
    }

    private static void ends() {
        CHECK.says("one that has none then ENDS in it");
        LoafWed x = new LoafWed();
        x.pair(PLAIN, 1);
        x.pair(PLAIN, 2);
        x.pair(MISERS, 1);
        x.pair(PLAIN, 60);
        due("year 0", x.year(1), 1);
        due("it ended in 0", x.of(0, 3), 0);
        due("year 1", x.year(1), 2);
        due("it ended in 1", x.of(1, 3), 1);
        due("years 2 and 3", x.year(2), 0);
        due("no year in which none goes ends it", x.of(2, 3), -1);
        due("year 4", x.year(1), 4);
        due("it ended in 4", x.of(2, 3), 4);
        due("years 5 to 58", x.year(54), 0);
        due("one is left", x.of(3, 1), 1);
        due("year 59", x.year(1), 8);
        due("it ended in 59", x.of(3, 3), 59);
        due("none ends twice", x.year(60), 0);
        due("it ended in 0 still", x.of(0, 3), 0);
        CHECK.says("n YEARS go by (1 .. 60), each of which may be undone: PAIRS that ENDED in them (bits).");
        x.valley();
        for (int p = 0; p < 6; p++) {
            x.pair(PLAIN, 10 * p + 10);
        }
        due("all six, the last in the last", x.year(60), 63);
        due("none is left", x.count(3), 0);
        x.valley();
        for (int p = 0; p < 6; p++) {
            x.pair(PLAIN, 2);
        }
        due("none in the first", x.year(1), 0);
        due("all six in one year", x.year(1), 63);
        due("when", x.of(0, 3) + x.of(5, 3), 2);
    }

    private static void neverWas() {
        CHECK.says("(one that has none at first: never was; it ENDS nowhere)");
        LoafWed x = new LoafWed();
        x.pair(PLAIN, 0);
        x.pair(FRIENDS, 0);
        due("year(1)", x.year(1), 0);
        due("year(60)", x.year(60), 0);
        due("ended", x.of(0, 3), -1);
        due("ended", x.of(1, 3), -1);
        due("till", x.till(0), -1);
        due("together", x.together(0), -1);
        due("together, which", x.together(1), -1);
        due("left", x.left(0, 99), 0);
    }

    private static void eachYearMayBeUndone() {
        CHECK.says("each of which may be undone");
        LoafWed x = new LoafWed();
        x.pair(PLAIN, 9);
        x.year(3);
        due("three", x.count(5), 3);
        x.year(5);
        due("eight", x.count(5), 8);
        x.year(1);
        due("eight at most", x.count(5), 8);
        due("it ended", x.of(0, 3), 8);
        due("undo()", x.undo(), 8);
        due("it has not ended", x.of(0, 3), -1);
        due("it has one", x.of(0, 1), 1);
        due("seven more", x.count(5), 7);
    }

    private static void kin() {
        CHECK.says("KIN 0 .. 7, as they come: FLOUR for so many LOAVES (1 .. 20).");
        LoafWed x = new LoafWed();
        due("kin(0)", x.kin(0), -2);
        due("kin(21)", x.kin(21), -2);
        int[] flour = {1, 20, 2, 19, 20, 1, 10, 20};
        for (int k = 0; k < 8; k++) {
            due("kin " + k, x.kin(flour[k]), k);
        }
        due("a 9th", x.kin(1), -4);
        due("eight", x.count(1), 8);
    }

    private static void valley() {
        CHECK.says("All as at first (but for IMAGES, THE TEXT, THE FRACTION, STATUS): how many PAIRS there were.");
        LoafWed x = new LoafWed();
        due("of an empty one", x.valley(), 0);
        long first = x.digest();
        for (int p = 0; p < 6; p++) {
            x.pair(p, 60);
        }
        for (int k = 0; k < 8; k++) {
            x.kin(20);
            x.counted(0, 60, 60);
        }
        x.damp(4095);
        x.dry(4095);
        x.year(60);
        due("of a full one", x.valley(), 6);
        due("all as at first", x.digest(), first);
        due("nothing to undo", x.undo(), -3);
        due("pairs from 0 on", x.pair(2, 3), 0);
        due("since 0", x.of(0, 2), 0);
        due("kin from 0 on", x.kin(3), 0);
        due("counted from 1 on", x.counted(0, 0, 0), 1);
    }

    private static void allCalls() {
        CHECK.says("An object is used for at most 512 calls after it has been made");
        LoafWed x = new LoafWed();
        x.pair(MISERS, 60);
        for (int call = 1; call < 506; call++) {
            x.year(60);
        }
        due("the year", x.count(2), 30300);
        x.pair(FRIENDS, 60);
        due("year 30300 by 5, 3 and 2 leaves nothing", x.of(1, 4), 1);
        x.year(44);
        due("year 30344 is a feast, and by 3 leaves 2", x.of(1, 4), 4);
        due("the 512th call", x.count(2), 30344);
    }
}
