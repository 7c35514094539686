import java.util.ArrayList;
import java.util.List;

/** The edges that the document names of undo, images, status, the fraction and the digest, each by its own words. */
public final class KeptEdgesTest {
    private static final Check CHECK = new Check();

    public static void main(String[] args) {
        undoOfEach();
        undoOfEnds();
        undoEightAtMost();
        undoRoundAndRound();
        undoBehindAPair();
        undoLeavesTheRest();
        imagesKeepAll();
        imagesKeepNot();
        imagesOfNothing();
        status();
        fraction();
        counts();
        digest();
        CHECK.end("KeptEdgesTest");
    }

    private static void due(String call, long got, long want) {
        CHECK.due(call, got, want);
    }

    /** Six pairs, of which years end some. */
    private static LoafWed six() {
        LoafWed x = new LoafWed();
        int[] loaves = {3, 60, 2, 5, 0, 4};
        for (int p = 0; p < 6; p++) {
            x.pair(p, loaves[p]);
        }
        return x;
    }

    private static void undoOfEach() {
        CHECK.says("UNDO: LOAVES, when PAIRS END, the YEAR as ahead of the last YEAR gone by, LOAVES given or taken");
        LoafWed x = six();
        List<Long> seen = new ArrayList<>();
        int[] years = new int[9];
        for (int step = 0; step < 8; step++) {
            years[step] = x.count(2);
            seen.add(x.digest());
            switch (step) {
                case 1:
                    x.give(5, 56);
                    break;
                case 4:
                    x.give(5, -50);
                    break;
                case 6:
                    x.give(5, 0);
                    break;
                default:
                    x.year(1);
            }
        }
        due("some ended", x.of(0, 3) * 10 + x.of(2, 3), 21);
        for (int step = 7; step >= 0; step--) {
            due("the year ahead of step " + step, x.undo(), years[step]);
            due("all as ahead of step " + step, x.digest(), seen.get(step));
        }
        due("none more", x.undo(), -3);
        due("the last pair is as at first", x.of(5, 1) * 10 + x.of(5, 3), 39);
    }

    private static void undoOfEnds() {
        LoafWed x = new LoafWed();
        for (int p = 0; p < 6; p++) {
            x.pair(0, p + 1);
        }
        due("all end", x.year(6), 63);
        for (int p = 5; p >= 0; p--) {
            due("it ended", x.of(p, 3), p);
            due("undo()", x.undo(), p);
            due("it has not ended", x.of(p, 3), -1);
            due("it has one", x.of(p, 1), 1);
            due("who ended ahead of it has", x.of(0, 3), p == 0 ? -1 : 0);
        }
    }

    private static void undoEightAtMost() {
        CHECK.says("(8 at most; behind a PAIR that comes none may be)");
        LoafWed x = six();
        due("none at first", x.undo(), -3);
        for (int step = 1; step <= 8; step++) {
            x.give(1, -1);
            due("given " + step, x.count(5), step);
        }
        x.give(1, -1);
        due("a ninth", x.count(5), 8);
        for (int step = 1; step <= 8; step++) {
            due("undo()", x.undo(), 0);
            due("loaves", x.of(1, 1), 51 + step);
            due("so many more", x.count(5), 8 - step);
        }
        due("the first is not undone", x.undo(), -3);
        due("loaves", x.of(1, 1), 59);
        due("refused twice", x.status(1), 2);
    }

    private static void undoRoundAndRound() {
        LoafWed x = six();
        for (int round = 0; round < 10; round++) {
            int before = x.of(1, 1);
            x.year(3);
            x.give(1, -1);
            due("year(3), then a loaf taken, undone", x.undo(), round + 3);
            due("a year undone", x.undo(), round + 2);
            due("a year undone", x.undo(), round + 1);
            due("one year has gone by", before - x.of(1, 1), round % 2 == 0 ? 1 : 0);
        }
        // Of those ahead five are kept, as each round did four and undid three.
        due("five", x.count(5), 5);
        for (int year = 9; year >= 5; year--) {
            due("undo()", x.undo(), year);
        }
        due("no more", x.undo(), -3);
        due("the last one ends", x.year(60), 32);
        due("the year", x.count(2), 65);
    }

    private static void undoBehindAPair() {
        CHECK.says("behind a PAIR that comes none may be");
        LoafWed x = new LoafWed();
        x.year(9);
        due("eight", x.count(5), 8);
        due("a refused pair", x.pair(0, 61), -2);
        due("eight still", x.count(5), 8);
        x.pair(0, 60);
        due("none", x.count(5), 0);
        due("undo()", x.undo(), -3);
        x.year(1);
        due("one", x.count(5), 1);
        due("undo()", x.undo(), 9);
        due("no further", x.undo(), -3);
        for (int p = 1; p < 6; p++) {
            x.pair(0, 60);
        }
        x.year(2);
        due("full", x.pair(0, 60), -4);
        due("two still", x.count(5), 2);
        x.kin(1);
        x.counted(0, 0, 0);
        x.forget();
        x.damp(1);
        x.dry(1);
        due("two still, behind others that come", x.count(5), 2);
        due("undo()", x.undo(), 10);
    }

    private static void undoLeavesTheRest() {
        CHECK.says("UNDO: the YEAR then. NO: none may be.");
        LoafWed x = six();
        x.year(1);
        x.kin(5);
        x.counted(0, 1, 2);
        x.damp(3);
        x.dry(4);
        x.type(65);
        x.mice(1, 1, 10);
        x.image(0);
        due("undo()", x.undo(), 0);
        due("kin", x.count(1), 1);
        due("counted", x.count(4), 1);
        due("bytes", x.count(6), 1);
        due("damp", x.damp(0), 3);
        due("dry", x.dry(0), 4);
        due("the fraction", x.part(1), 1);
        due("the image", x.from(0), 1);
        due("it may be undone there", x.undo(), 0);
    }

    private static LoafWed full() {
        LoafWed x = new LoafWed();
        for (int p = 0; p < 6; p++) {
            x.pair(p, 60 - p);
            x.year(1);
        }
        x.pair(0, 1);
        x.dry(4094);
        x.damp(2049);
        for (int k = 0; k < 8; k++) {
            x.kin(20 - k);
            x.counted(k % 6, 60 - k, 50 + k);
        }
        x.give(5, -54);
        x.year(5);
        x.give(0, 1);
        x.give(1, -1);
        return x;
    }

    /** No row is left as full() has it, so that what an image does not bring back is seen. */
    private static void fillOtherwise(LoafWed x) {
        x.year(7);
        for (int p = 0; p < 6; p++) {
            x.pair(5 - p, 1 + p);
        }
        for (int k = 0; k < 8; k++) {
            x.kin(1 + k);
            x.counted(5 - k % 6, k, k);
        }
        x.year(60);
    }

    /** Digests on the way back through all that may be undone. */
    private static List<Long> wayBack(LoafWed x) {
        List<Long> seen = new ArrayList<>();
        for (int i = 0; i < 9; i++) {
            seen.add(x.digest());
            seen.add((long) x.undo());
        }
        return seen;
    }

    private static void imagesKeepAll() {
        CHECK.says("IMAGES 0, 1 keep all but them, THE TEXT, THE FRACTION and STATUS; what may be undone they keep; it goes on from one.");
        List<Long> want = wayBack(full());
        for (int i = 0; i < 2; i++) {
            LoafWed x = full();
            long kept = x.digest();
            due("eight may be undone", x.count(5), 8);
            due("image(" + i + ")", x.image(i), 1);
            due("the other was not kept", x.from(1 - i), -3);
            x.year(60);
            x.valley();
            x.image(1 - i);
            fillOtherwise(x);
            due("from(" + i + ")", x.from(i), 1);
            due("all is there", x.digest(), kept);
            CHECK.holds("all that may be undone, too", wayBack(x).equals(want));
            due("from(" + i + ") again", x.from(i), 1);
            CHECK.holds("it has not gone from the image", wayBack(x).equals(want));
            due("from the other", x.from(1 - i), 1);
            due("it is empty", x.count(0) + x.count(1) + x.count(2) + x.count(4) + x.count(5), 0);
        }
        LoafWed y = full();
        y.image(0);
        y.year(1);
        y.image(0);
        y.year(1);
        due("from(0)", y.from(0), 1);
        due("the later one", y.count(2), 12);
    }

    private static void imagesKeepNot() {
        LoafWed x = new LoafWed();
        x.pair(0, 2);
        x.type('a');
        x.mice(0, 1, 5);
        x.image(0);
        x.image(1);
        x.clear();
        x.type('b');
        x.type('c');
        x.mice(0, 1, 2);
        x.count(9);
        x.undo();
        due("from(0)", x.from(0), 1);
        due("the text", x.count(6), 2);
        due("the fraction", x.part(0) * 10 + x.part(1), 45);
        due("BAD", x.status(0), 1);
        due("NO", x.status(1), 1);
        x.image(0);
        due("one image does not keep the other", x.from(1), 1);
        due("from(0)", x.from(0), 1);
    }

    private static void imagesOfNothing() {
        CHECK.says("NO: none was kept.");
        LoafWed x = new LoafWed();
        long first = x.digest();
        due("from(0)", x.from(0), -3);
        due("from(1)", x.from(1), -3);
        due("image(-1)", x.image(-1), -2);
        due("image(2)", x.image(2), -2);
        due("from(-1)", x.from(-1), -2);
        due("from(2)", x.from(2), -2);
        due("none was kept by these", x.from(0), -3);
        x.image(1);
        x.pair(0, 9);
        x.valley();
        due("an image stays behind valley()", x.from(1), 1);
        due("an empty one", x.digest(), first);
        due("the other is none still", x.from(0), -3);
    }

    private static void status() {
        CHECK.says("STATUS: BAD (0), NO (1), FULL (2). -1: another what (counts as BAD).");
        LoafWed x = new LoafWed();
        for (int what = 0; what < 3; what++) {
            due("status(" + what + ")", x.status(what), 0);
        }
        due("status(3)", x.status(3), -1);
        due("status(-1)", x.status(-1), -1);
        due("BAD", x.status(0), 2);
        CHECK.says("STATUS: how many calls were refused as BAD, NO, FULL (each answer told so below is such a one).");
        for (int i = 0; i < 100; i++) {
            x.undo();
            x.type(-1);
            x.kin(1);
        }
        due("BAD", x.status(0), 102);
        due("NO", x.status(1), 100);
        due("FULL", x.status(2), 92);
        x.pair(0, 1);
        due("give() of BAD is -10", x.give(0, 61), -10);
        due("of() of BAD is -10", x.of(1, 0), -10);
        due("swapped() of BAD is -10", x.swapped(-2), -10);
        due("they count as BAD", x.status(0), 105);
        x.valley();
        due("valley() leaves them", x.status(0) + x.status(1) + x.status(2), 297);
    }

    private static void fraction() {
        CHECK.says("THE FRACTION is 0 by 1 at first; lowest terms, below above 0.");
        LoafWed x = new LoafWed();
        due("above", x.part(0), 0);
        due("below", x.part(1), 1);
        x.pair(0, 2);
        x.pair(0, 0);
        int[][] lowest = {{1, 1}, {9, 10}, {4, 5}, {7, 10}, {3, 5}, {1, 2}, {2, 5}, {3, 10}, {1, 5}, {1, 10}, {0, 1}};
        for (int c = 0; c <= 10; c++) {
            x.mice(0, 1, c);
            due("above, c of " + c, x.part(0), lowest[c][0]);
            due("below, c of " + c, x.part(1), lowest[c][1]);
        }
        x.mice(0, 1, 1);
        x.mice(1, 12, 5);
        due("nothing is 0", x.part(0), 0);
        due("by 1", x.part(1), 1);
        CHECK.says("THE FRACTION: above (0), below (1). BAD.");
        due("part(2)", x.part(2), -2);
        due("part(-1)", x.part(-1), -2);
    }

    private static void counts() {
        CHECK.says("How many: 0 PAIRS, 1 KIN, 2 the YEAR, 3 LOAVES of all, 4 COUNTED, 5 that may be undone, 6 bytes of THE TEXT. BAD.");
        LoafWed x = new LoafWed();
        for (int p = 0; p < 6; p++) {
            x.pair(5, 60);
        }
        for (int k = 0; k < 8; k++) {
            x.kin(1);
            x.counted(0, 0, 0);
        }
        due("loaves of six full ones", x.count(3), 360);
        x.year(20);
        Check.write(x, " ".repeat(150));
        int[] want = {6, 8, 20, 348, 8, 8, 150};
        for (int what = 0; what <= 6; what++) {
            due("count(" + what + ")", x.count(what), want[what]);
        }
        due("count(7)", x.count(7), -2);
        due("count(-1)", x.count(-1), -2);
    }

    private static long hash(long... row) {
        long h = 1049;
        for (long v : row) {
            h = 31 * h + v;
        }
        return h;
    }

    private static void digest() {
        CHECK.says("h = 1049; then h = 31 h + v for each v: count(0) to count(6); DAMP, DRY (bits); of PAIRS KIND, LOAVES, since, when it ENDED (NONE: -1); of KIN FLOUR; of COUNTED the PAIR, m, v; THE FRACTION.");
        due("of nothing", new LoafWed().digest(), hash(0, 0, 0, 0, 0, 0, 0, 0, 0, 0, 1));
        LoafWed x = new LoafWed();
        x.pair(0, 1);
        x.pair(1, 60);
        x.year(1);
        x.pair(2, 0);
        x.pair(3, 59);
        x.pair(4, 58);
        x.pair(5, 57);
        x.year(2);
        for (int k = 0; k < 8; k++) {
            x.kin(k + 1);
            x.counted(5 - k % 6, 60 - k, k);
        }
        x.damp(4095);
        x.dry(2048);
        x.mice(4, 1, 3);
        Check.write(x, "abc");
        // Of 59 two went, of 58 one and two, of 57 none, of 60 one in year 0 and one in year 2.
        due("of all that there can be; it wraps around", x.digest(), hash(6, 8, 3, 58 + 57 + 55 + 57, 8, 2, 3, 4095, 2048,
            0, 0, 0, 0, 1, 58, 0, -1, 2, 0, 1, -1, 3, 57, 1, -1, 4, 55, 1, -1, 5, 57, 1, -1,
            1, 2, 3, 4, 5, 6, 7, 8, 5, 60, 0, 4, 59, 1, 3, 58, 2, 2, 57, 3, 1, 56, 4, 0, 55, 5, 5, 54, 6, 4, 53, 7, 1, 1));
        long before = x.digest();
        x.pair(0, 0);
        due("refusals are not in it", x.digest(), before);
        due("digest() is no refusal", x.status(0), 0);
    }
}
