/** Promises 14 to 18: left, till, together, gifts, drought. */
public final class ComesTest {
    private static final Check CHECK = new Check();

    public static void main(String[] args) {
        left();
        till();
        together();
        gifts();
        firstRow();
        drought();
        nothingChanges();
        CHECK.end("ComesTest");
    }

    private static void due(String call, long got, long want) {
        CHECK.due(call, got, want);
    }

    private static void left() {
        LoafWed x = new LoafWed();
        due("14: no pair", x.left(0, 0), LoafWed.BAD);
        x.pair(0, 60);
        x.pair(1, 60);
        x.pair(2, 10);
        x.year(3);
        due("14: now", x.left(0, 0), 57);
        due("14: behind 1", x.left(0, 1), 56);
        due("14: behind 57", x.left(0, 57), 0);
        due("14: behind 99", x.left(1, 99), 58 - 49);
        due("14: a feast in the second", x.left(2, 2), 7 - 1 - 3);
        due("14: none below 0", x.left(2, 7), 0);
        due("14: left(0, 100)", x.left(0, 100), LoafWed.BAD);
        due("14: left(0, -1)", x.left(0, -1), LoafWed.BAD);
        due("14: left(3, 0)", x.left(3, 0), LoafWed.BAD);
        due("14: left(-1, 0)", x.left(-1, 0), LoafWed.BAD);
        due("14: refused", x.status(0), 5);
    }

    private static void till() {
        LoafWed x = new LoafWed();
        due("15: no pair", x.till(0), LoafWed.BAD);
        x.pair(0, 1);
        x.pair(1, 50);
        x.pair(1, 51);
        x.pair(0, 0);
        due("15: this year", x.till(0), 0);
        due("15: the last of 99", x.till(1), 98);
        due("15: too late", x.till(2), LoafWed.NONE);
        due("15: never was", x.till(3), LoafWed.NONE);
        x.year(5);
        due("15: ended", x.till(0), 0);
        due("15: as before", x.till(1), 98);
        due("15: within 99 now", x.till(2), 100);
        due("15: till(4)", x.till(4), LoafWed.BAD);
        due("15: till(-1)", x.till(-1), LoafWed.BAD);
        due("15: refused", x.status(0), 3);
        x.pair(1, 50);
        due("15: in the 100th year from now", x.till(4), LoafWed.NONE);
        x.undo();
        x.year(1);
        due("15: in the 99th year from now", x.till(4), 104);
    }

    private static void together() {
        LoafWed x = new LoafWed();
        due("16: none", x.together(0), LoafWed.NONE);
        due("16: together(2)", x.together(2), LoafWed.BAD);
        due("16: together(-1)", x.together(-1), LoafWed.BAD);
        x.pair(0, 0);
        x.pair(0, 0);
        x.pair(0, 7);
        due("16: one alone", x.together(0), LoafWed.NONE);
        due("16: one alone", x.together(1), LoafWed.NONE);
        x.pair(0, 9);
        x.pair(1, 5);
        due("16: two, in 8", x.together(0), 8);
        due("16: two", x.together(1), 8 + 16);
        x.pair(0, 7);
        due("16: of like ones the first", x.together(0), 6);
        due("16: of like ones the first", x.together(1), 4 + 32);
        x.year(7);
        due("16: those that ended are no more", x.together(0), 8);
        due("16: those that ended are no more", x.together(1), 8 + 16);
        x.year(3);
        due("16: none more", x.together(1), LoafWed.NONE);
        x.valley();
        x.pair(0, 3);
        x.pair(1, 2);
        x.pair(0, 6);
        x.pair(0, 6);
        x.pair(0, 6);
        due("16: the most, not the first", x.together(0), 5);
        due("16: the most, not the first", x.together(1), 4 + 8 + 16);
        due("16: refused", x.status(0), 2);
        x.valley();
        x.pair(1, 50);
        x.pair(1, 50);
        due("16: the last of 99", x.together(0), 98);
        x.give(0, 1);
        x.give(1, 1);
        due("16: too late", x.together(0), LoafWed.NONE);
        x.valley();
        x.year(1);
        x.pair(1, 50);
        x.pair(1, 50);
        due("16: in the 100th year from now", x.together(0), LoafWed.NONE);
        x.year(1);
        due("16: in the 99th year from now", x.together(0), 100);
    }

    private static void gifts() {
        LoafWed x = new LoafWed();
        x.pair(0, 5);
        due("17: no second pair", x.gifts(0, 1, 1, 0), LoafWed.BAD);
        x.pair(0, 3);
        x.pair(0, 0);
        due("17: one year", x.gifts(0, 1, 1, 0), 0);
        due("17: nothing is needed", x.gifts(0, 1, 2, 0), 0);
        due("17: nothing is needed", x.gifts(0, 1, 2, 1), 0);
        due("17: nothing is needed", x.gifts(0, 1, 2, 2), 0);
        due("17: one loaf must be left", x.gifts(0, 1, 3, 0), LoafWed.NONE);
        x.kin(7);
        due("17: all or nothing", x.gifts(0, 1, 3, 0), 7);
        due("17: to b", x.gifts(0, 1, 3, 2), 1);
        due("17: to a", x.gifts(1, 0, 3, 1), 1);
        due("17: not enough", x.gifts(0, 1, 10, 0), LoafWed.NONE);
        due("17: not enough", x.gifts(0, 1, 10, 1), LoafWed.NONE);
        due("17: not enough", x.gifts(0, 1, 10, 2), LoafWed.NONE);
        x.kin(6);
        due("17: the lesser one", x.gifts(0, 1, 3, 0), 6);
        due("17: the lesser one", x.gifts(0, 1, 3, 2), 2);
        due("17: both to both", x.gifts(0, 1, 9, 0), 13);
        due("17: both to both", x.gifts(0, 1, 9, 1), 2);
        due("17: both to both", x.gifts(0, 1, 9, 2), 1);
        due("17: one that has none may have so", x.gifts(0, 2, 4, 0), 6);
        due("17: gifts(0, 0)", x.gifts(0, 0, 1, 0), LoafWed.BAD);
        due("17: gifts(-1, 0)", x.gifts(-1, 0, 1, 0), LoafWed.BAD);
        due("17: gifts(0, 3)", x.gifts(0, 3, 1, 0), LoafWed.BAD);
        due("17: t of 0", x.gifts(0, 1, 0, 0), LoafWed.BAD);
        due("17: t of 61", x.gifts(0, 1, 61, 0), LoafWed.BAD);
        due("17: what of 3", x.gifts(0, 1, 1, 3), LoafWed.BAD);
        due("17: what of -1", x.gifts(0, 1, 1, -1), LoafWed.BAD);
        due("17: refused", x.status(0), 8);
        x.valley();
        x.dry(4095);
        x.pair(0, 60);
        x.pair(5, 60);
        x.kin(20);
        x.kin(20);
        x.kin(20);
        x.kin(20);
        due("17: 121 are needed, and more than 60 may be", x.gifts(0, 1, 60, 0), 80);
        due("17: the first four bring", x.gifts(0, 1, 60, 1), 15);
    }

    private static void firstRow() {
        LoafWed x = new LoafWed();
        x.pair(0, 1);
        x.pair(0, 1);
        x.kin(4);
        x.kin(4);
        x.kin(4);
        due("17: how much", x.gifts(0, 1, 3, 0), 8);
        due("17: the first row has nothing of KIN 0", x.gifts(0, 1, 3, 1), 2);
        due("17: the first row has nothing of KIN 0", x.gifts(0, 1, 3, 2), 4);
        x.valley();
        x.pair(0, 1);
        x.pair(0, 1);
        x.kin(3);
        x.kin(2);
        x.kin(1);
        due("17: exactly", x.gifts(0, 1, 3, 0), 6);
        due("17: a comes ahead of b", x.gifts(0, 1, 3, 1), 1);
        due("17: two for b", x.gifts(0, 1, 3, 2), 6);
    }

    private static void drought() {
        LoafWed x = new LoafWed();
        due("18: without pairs the first", x.drought(60), 0);
        x.dry(3);
        due("18: the first not dry", x.drought(0), 2);
        x.dry(0);
        x.pair(1, 60);
        x.year(3);
        due("18: of like ones the first", x.drought(0), 0);
        due("18: year 4 is the first that is even", x.drought(2), 4);
        due("18: year 4 comes twice, so do others ahead of it", x.drought(60), 0);
        due("18: year 4 comes twice", x.drought(14), 4);
        due("18: drought(61)", x.drought(61), LoafWed.BAD);
        due("18: drought(-1)", x.drought(-1), LoafWed.BAD);
        x.dry(4095 - 128);
        due("18: the only one", x.drought(5), 7);
        x.dry(4095);
        due("18: all are dry", x.drought(5), LoafWed.NONE);
        due("18: refused", x.status(0), 2);
    }

    private static void nothingChanges() {
        LoafWed x = new LoafWed();
        Check.read(x, "valley;pair 0 9;pair 4 30;pair 1 5;kin 5;kin 9;dry 3;damp 4;");
        x.year(2);
        long before = x.digest();
        x.left(0, 50);
        x.till(1);
        x.together(0);
        x.together(1);
        x.gifts(0, 1, 9, 0);
        x.drought(30);
        due("14 to 18: nothing is changed", x.digest(), before);
    }
}
