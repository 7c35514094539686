import java.util.ArrayList;
import java.util.List;

/**
 * Every refused call of every promise, just beside what is told and far from it, on a new object and on one that is
 * full: its answer, the one STATUS that it raises, and that nothing else has changed, which is seen by living on.
 */
public final class RefusedTest {
    private static final Check CHECK = new Check();
    private static final int BAD = 0;
    private static final int NO = 1;
    private static final int FULL = 2;
    private static final int NOWHERE = -1;
    /** Pairs of the lived valley: one at its most, one that ended, one that never was. */
    private static final int RICHEST = 0;
    private static final int ENDED = 1;
    private static final int NEVER = 2;
    private static final int POOREST = 3;

    private interface Call {
        long ask(LoafWed x);
    }

    private interface Maker {
        LoafWed make();
    }

    private final Maker maker;
    private final int pairs;
    private final String where;

    private RefusedTest(Maker maker, int pairs, String where) {
        this.maker = maker;
        this.pairs = pairs;
        this.where = where;
    }

    public static void main(String[] args) {
        CHECK.says("Refused, changing nothing but STATUS, the first of: BAD -2 a number is not as told; NO -3 as told; FULL -4 (where others are told they count as these).");
        RefusedTest fresh = new RefusedTest(LoafWed::new, 0, "new: ");
        fresh.badNumbers();
        fresh.noneIsThere();
        RefusedTest lived = new RefusedTest(RefusedTest::lived, 6, "lived: ");
        lived.badNumbers();
        lived.tooMany();
        lived.badAheadOfTheOthers();
        lived.gifts();
        lived.given();
        lived.countsNowhere();
        lived.endsAreTaken();
        new RefusedTest(RefusedTest::behindAPair, 1, "behind a pair: ").undoNothing();
        CHECK.end("RefusedTest");
    }

    private static LoafWed lived() {
        LoafWed x = new LoafWed();
        x.damp(9);
        x.dry(0);
        x.pair(5, 60);
        x.pair(0, 2);
        x.pair(4, 0);
        x.pair(1, 3);
        x.pair(3, 33);
        x.image(0);
        x.year(1);
        x.give(4, 5);
        x.pair(2, 30);
        x.year(2);
        for (int k = 0; k < 8; k++) {
            x.give(5, k % 2 == 0 ? -1 : 1);
            x.kin(20 - k);
            x.counted(k % 6, k, 7 * k);
        }
        x.mice(5, 3, 7);
        Check.write(x, "valley;dry 3 7;pair 2 9;pair 4 60;kin 7;" + " ".repeat(110));
        x.kin(0);
        x.kin(1);
        x.from(1);
        return x;
    }

    private static LoafWed behindAPair() {
        LoafWed x = new LoafWed();
        x.year(9);
        x.pair(0, 5);
        return x;
    }

    /** All that an object shows when it lives on: its past, its image, its text. */
    private static List<Long> livedOn(LoafWed x) {
        List<Long> seen = new ArrayList<>();
        wayBack(x, seen);
        for (int i = 0; i < 2; i++) {
            seen.add((long) x.from(i));
            wayBack(x, seen);
        }
        seen.add((long) x.read());
        seen.add(x.digest());
        return seen;
    }

    private static void wayBack(LoafWed x, List<Long> seen) {
        for (int i = 0; i < 9; i++) {
            seen.add(x.digest());
            seen.add((long) x.undo());
        }
    }

    private void refused(String name, int status, long answer, Call call) {
        LoafWed x = maker.make();
        LoafWed untouched = maker.make();
        CHECK.due(where + name, call.ask(x), answer);
        for (int what = 0; what < 3; what++) {
            long raised = x.status(what) - untouched.status(what);
            CHECK.due(where + name + ", then what status(" + what + ") is more", raised, what == status ? 1 : 0);
        }
        CHECK.holds(where + name + " changes nothing else", livedOn(x).equals(livedOn(untouched)));
    }

    private void bad(String name, Call call) {
        refused(name, BAD, -2, call);
    }

    private void badTen(String name, Call call) {
        refused(name, BAD, -10, call);
    }

    /** Just too small, just too large, and as far off as a number can be. */
    private static int[] beside(int least, int most) {
        return new int[] {Integer.MIN_VALUE, least - 1, most + 1, Integer.MAX_VALUE};
    }

    private void badNumbers() {
        for (int n : beside(0, 4095)) {
            bad("damp(" + n + ")", x -> x.damp(n));
            bad("dry(" + n + ")", x -> x.dry(n));
        }
        for (int n : beside(0, 5)) {
            bad("pair(" + n + ", 5)", x -> x.pair(n, 5));
        }
        for (int n : beside(0, 60)) {
            bad("pair(0, " + n + ")", x -> x.pair(0, n));
            bad("drought(" + n + ")", x -> x.drought(n));
            bad("years(5, " + n + ", 5)", x -> x.years(5, n, 5));
        }
        for (int n : beside(1, 20)) {
            bad("kin(" + n + ")", x -> x.kin(n));
        }
        for (int n : beside(0, 127)) {
            bad("type(" + n + ")", x -> x.type(n));
        }
        for (int n : beside(1, 60)) {
            bad("year(" + n + ")", x -> x.year(n));
        }
        for (int n : beside(0, 1)) {
            bad("together(" + n + ")", x -> x.together(n));
            bad("part(" + n + ")", x -> x.part(n));
            bad("image(" + n + ")", x -> x.image(n));
            bad("from(" + n + ")", x -> x.from(n));
        }
        for (int n : beside(0, 999999)) {
            bad("years(" + n + ", 5, 5)", x -> x.years(n, 5, 5));
        }
        for (int n : beside(0, 100)) {
            bad("years(5, 5, " + n + ")", x -> x.years(5, 5, n));
        }
        for (int n : beside(0, 6)) {
            bad("count(" + n + ")", x -> x.count(n));
        }
        for (int n : beside(0, 2)) {
            refused("status(" + n + ")", BAD, -1, x -> x.status(n));
        }
        badTen("swapped(-2)", x -> x.swapped(-2));
        badTen("swapped(MIN)", x -> x.swapped(Integer.MIN_VALUE));
        badPairs();
    }

    private void badPairs() {
        for (int p : beside(0, pairs - 1)) {
            badTen("give(" + p + ", 1)", x -> x.give(p, 1));
            badTen("of(" + p + ", 1)", x -> x.of(p, 1));
            bad("left(" + p + ", 1)", x -> x.left(p, 1));
            bad("till(" + p + ")", x -> x.till(p));
            bad("gifts(" + p + ", 0, 1, 0)", x -> x.gifts(p, 0, 1, 0));
            bad("gifts(0, " + p + ", 1, 0)", x -> x.gifts(0, p, 1, 0));
            bad("counted(" + p + ", 0, 0)", x -> x.counted(p, 0, 0));
            bad("is(" + p + ")", x -> x.is(p));
            bad("next(" + p + ")", x -> x.next(p));
            bad("crusts(" + p + ", 0)", x -> x.crusts(p, 0));
            bad("mice(" + p + ", 0, 0)", x -> x.mice(p, 0, 0));
        }
    }

    private void noneIsThere() {
        refused("undo()", NO, -3, LoafWed::undo);
        refused("from(0)", NO, -3, x -> x.from(0));
        refused("from(1)", NO, -3, x -> x.from(1));
        bad("gifts(0, 0, 1, 0)", x -> x.gifts(0, 0, 1, 0));
    }

    private void undoNothing() {
        CHECK.says("NO: none may be.");
        refused("undo()", NO, -3, LoafWed::undo);
    }

    private void tooMany() {
        CHECK.says("A PAIR: its number. BAD; FULL: 6.");
        refused("pair(0, 0)", FULL, -4, x -> x.pair(0, 0));
        refused("pair(5, 60)", FULL, -4, x -> x.pair(5, 60));
        CHECK.says("KIN: the number. BAD; FULL: 8.");
        refused("kin(1)", FULL, -4, x -> x.kin(1));
        refused("kin(20)", FULL, -4, x -> x.kin(20));
        CHECK.says("A byte (0 .. 127) comes behind THE TEXT: how many it has. BAD; FULL.");
        refused("type(0)", FULL, -4, x -> x.type(0));
        refused("type(127)", FULL, -4, x -> x.type(127));
        CHECK.says("COUNTED: how many there are. BAD; FULL: 8.");
        refused("counted(0, 0, 0)", FULL, -4, x -> x.counted(0, 0, 0));
        refused("counted(5, 60, 60)", FULL, -4, x -> x.counted(5, 60, 60));
        CHECK.says("It goes on from an IMAGE: 1. BAD; NO: none was kept.");
        refused("from(1)", NO, -3, x -> x.from(1));
    }

    /** Of a pair that is there, and where the call would be NO or FULL all the same. */
    private void badAheadOfTheOthers() {
        CHECK.says("the first of: BAD -2 a number is not as told; NO -3 as told; FULL -4");
        for (int n : beside(0, 99)) {
            bad("left(0, " + n + ")", x -> x.left(0, n));
        }
        for (int n : beside(0, 4)) {
            badTen("of(0, " + n + ")", x -> x.of(0, n));
        }
        for (int n : beside(0, 60)) {
            bad("counted(5, " + n + ", 5)", x -> x.counted(5, n, 5));
            bad("counted(5, 5, " + n + ")", x -> x.counted(5, 5, n));
        }
        for (int n : beside(0, 1)) {
            bad("crusts(5, " + n + ")", x -> x.crusts(5, n));
        }
        for (int n : beside(0, 12)) {
            bad("mice(5, " + n + ", 5)", x -> x.mice(5, n, 5));
        }
        for (int n : beside(0, 10)) {
            bad("mice(5, 5, " + n + ")", x -> x.mice(5, 5, n));
        }
        for (int n : beside(-60, 60)) {
            for (int p = 0; p < pairs; p++) {
                int pair = p;
                badTen("give(" + p + ", " + n + ")", x -> x.give(pair, n));
            }
        }
    }

    private void gifts() {
        CHECK.says("how much (0), to a (1; bits), to b (2; bits). NONE. BAD: alike, too.");
        for (int n : beside(1, 60)) {
            bad("gifts(0, 1, " + n + ", 0)", x -> x.gifts(0, 1, n, 0));
        }
        for (int n : beside(0, 2)) {
            bad("gifts(0, 1, 1, " + n + ")", x -> x.gifts(0, 1, 1, n));
        }
        for (int p = 0; p < pairs; p++) {
            int pair = p;
            bad("gifts of " + p + " alike", x -> x.gifts(pair, pair, 1, 0));
        }
    }

    private void given() {
        CHECK.says("NO: it has none, there would be less than 1, more than 60.");
        for (int n : new int[] {-60, -1, 0, 1, 60}) {
            refused("give(ended, " + n + ")", NO, -3, x -> x.give(ENDED, n));
            refused("give(never, " + n + ")", NO, -3, x -> x.give(NEVER, n));
        }
        for (int n : new int[] {-60, 1, 2, 60}) {
            refused("give(60 of 60, " + n + ")", NO, -3, x -> x.give(RICHEST, n));
        }
        for (int n : new int[] {-60, -2, -1, 60}) {
            refused("give(1 of 60, " + n + ")", NO, -3, x -> x.give(POOREST, n));
        }
        LoafWed x = lived();
        CHECK.due("what the richest has", x.of(RICHEST, 1), 60);
        CHECK.due("what the poorest has", x.of(POOREST, 1), 1);
        CHECK.due("when it ended", x.of(ENDED, 3), 1);
        CHECK.due("give(60 of 60, -59)", x.give(RICHEST, -59), 1);
        CHECK.due("give(1 of 60, 59)", x.give(POOREST, 59), 60);
        CHECK.due("give(1 of 60, 0)", x.give(RICHEST, 0), 1);
        CHECK.due("give(60 of 60, 0)", x.give(POOREST, 0), 60);
    }

    /** Answers below 0 that are no refusals. */
    private void countsNowhere() {
        CHECK.says("(each answer told so below is such a one)");
        refused("till(never)", NOWHERE, -1, x -> x.till(NEVER));
        refused("of(never, 3)", NOWHERE, -1, x -> x.of(NEVER, 3));
        refused("together(0)", NOWHERE, -1, x -> x.together(0));
        refused("together(1)", NOWHERE, -1, x -> x.together(1));
        refused("gifts(4, 5, 60, 0)", NOWHERE, -1, x -> withAllDry(x, y -> y.gifts(4, 5, 60, 0)));
        refused("drought(9)", NOWHERE, -1, x -> withAllDry(x, y -> y.drought(9)));
        refused("next(1)", NOWHERE, -1, x -> x.next(1));
        refused("swapped(0)", NOWHERE, -5, x -> x.swapped(0));
        refused("swapped(MAX)", NOWHERE, -5, x -> x.swapped(Integer.MAX_VALUE));
        CHECK.says("-10 less the FAULT: all stays.");
        LoafWed x = lived();
        long before = x.digest();
        Check.write(x, "valley;pair 0 60;kin 0;");
        CHECK.due("read()", x.read(), -31);
        Check.write(x, "valley;dry 3 7;pair 2 9;pair 4 60;kin 7;" + " ".repeat(110));
        CHECK.due("digest()", x.digest(), before);
        CHECK.due("status of all", x.status(0) * 100 + x.status(1) * 10 + x.status(2), 111);
        CHECK.holds("all stays", livedOn(x).equals(livedOn(lived())));
    }

    private static long withAllDry(LoafWed x, Call call) {
        int dry = x.dry(4095);
        long answer = call.ask(x);
        x.dry(dry);
        return answer;
    }

    /** Both ends of what is told, of every number: they are no refusals. */
    private void endsAreTaken() {
        CHECK.says("BAD -2 a number is not as told");
        LoafWed x = new LoafWed();
        int[] ends = {x.damp(0), x.damp(4095), x.dry(0), x.dry(4095), x.pair(0, 0), x.pair(5, 60), x.kin(1), x.kin(20),
            x.type(0), x.type(127), x.year(1), x.year(60), x.of(0, 0), x.of(1, 4), x.left(0, 0), x.left(1, 99),
            x.till(0), x.till(1), x.together(0), x.together(1), x.gifts(0, 1, 1, 0), x.gifts(1, 0, 60, 2),
            x.drought(0), x.drought(60), x.counted(0, 0, 0), x.counted(1, 60, 60), x.is(0), x.is(1), x.next(0), x.next(1),
            x.swapped(-1), x.swapped(0), x.crusts(0, 0), x.crusts(1, 1), x.mice(0, 0, 0), x.mice(1, 12, 10),
            x.years(0, 0, 0), x.years(999999, 60, 100), x.image(0), x.image(1), x.from(0), x.from(1),
            x.count(0), x.count(6), x.status(0), x.status(2)};
        CHECK.due("part(0) and part(1)", x.part(0) + x.part(1) > 0 ? 1 : 0, 1);
        CHECK.due("calls", ends.length, 46);
        for (int what = 0; what < 3; what++) {
            CHECK.due("status(" + what + ")", x.status(what), 0);
        }
    }
}
