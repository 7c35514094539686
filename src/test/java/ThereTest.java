/** Promises 28 to 33: part, image, from, status, count, digest. */
public final class ThereTest {
    private static final Check CHECK = new Check();

    public static void main(String[] args) {
        part();
        images();
        status();
        count();
        digest();
        CHECK.end("ThereTest");
    }

    private static void due(String call, long got, long want) {
        CHECK.due(call, got, want);
    }

    private static void part() {
        LoafWed x = new LoafWed();
        due("28: above", x.part(0), 0);
        due("28: below", x.part(1), 1);
        due("28: part(2)", x.part(2), LoafWed.BAD);
        due("28: part(-1)", x.part(-1), LoafWed.BAD);
        due("28: refused", x.status(0), 2);
        x.pair(0, 2);
        x.mice(0, 1, 4);
        due("28: lowest terms", x.part(0), 3);
        due("28: lowest terms", x.part(1), 5);
    }

    private static void images() {
        LoafWed x = new LoafWed();
        due("29: image(2)", x.image(2), LoafWed.BAD);
        due("29: image(-1)", x.image(-1), LoafWed.BAD);
        due("30: from(2)", x.from(2), LoafWed.BAD);
        due("30: from(-1)", x.from(-1), LoafWed.BAD);
        due("30: none was kept", x.from(0), LoafWed.NO);
        x.pair(0, 9);
        x.pair(1, 9);
        x.kin(3);
        x.damp(6);
        x.dry(5);
        x.counted(1, 2, 3);
        x.year(2);
        x.give(0, 9);
        due("29: image", x.image(0), 1);
        long kept = x.digest();
        due("30: the other was not", x.from(1), LoafWed.NO);
        x.valley();
        x.year(7);
        x.pair(5, 5);
        x.pair(4, 4);
        x.kin(20);
        x.counted(0, 20, 30);
        x.year(30);
        x.image(1);
        due("30: from", x.from(0), 1);
        due("30: all is as it was", x.digest(), kept);
        due("30: what may be undone", x.count(5), 3);
        x.year(60);
        x.forget();
        due("30: from again", x.from(0), 1);
        due("30: the image has not lived on", x.digest(), kept);
        due("30: undo behind it", x.undo(), 2);
        due("30: undo behind it", x.undo(), 1);
        x.from(1);
        due("30: the other", x.of(0, 0), 5);
        x.type(65);
        x.mice(0, 0, 0);
        x.status(7);
        x.from(0);
        due("30: the text stays", x.count(6), 1);
        due("30: the fraction stays", x.part(0), 1);
        due("30: status stays", x.status(0), 5);
        due("30: status stays", x.status(1), 2);
        x.valley();
        x.image(0);
        x.from(1);
        x.from(0);
        due("29: an image in an image's place", x.count(0), 0);
    }

    private static void status() {
        LoafWed x = new LoafWed();
        due("31: status(3)", x.status(3), -1);
        due("31: status(-1)", x.status(-1), -1);
        due("31: they count as BAD", x.status(0), 2);
        x.undo();
        x.from(0);
        x.from(1);
        due("31: NO", x.status(1), 3);
        for (int k = 0; k < 12; k++) {
            x.kin(1);
        }
        due("31: FULL", x.status(2), 4);
        x.pair(0, 0);
        x.till(0);
        x.together(0);
        x.gifts(0, 1, 1, 0);
        x.swapped(3);
        x.read();
        due("31: NONE, -5 and faults are no refusals", x.status(0), 3);
        due("31: NONE, -5 and faults are no refusals", x.status(1), 3);
        due("31: NONE, -5 and faults are no refusals", x.status(2), 4);
    }

    private static void count() {
        LoafWed x = new LoafWed();
        x.kin(1);
        x.kin(1);
        x.pair(0, 20);
        x.pair(0, 30);
        x.pair(0, 0);
        x.year(4);
        x.give(0, 1);
        x.counted(0, 0, 0);
        Check.write(x, "ab;");
        int[] want = {3, 2, 4, 43, 1, 5, 3};
        for (int what = 0; what <= 6; what++) {
            due("32: count(" + what + ")", x.count(what), want[what]);
        }
        due("32: count(7)", x.count(7), LoafWed.BAD);
        due("32: count(-1)", x.count(-1), LoafWed.BAD);
        due("32: refused", x.status(0), 2);
    }

    private static long hash(long... row) {
        long h = 1049;
        for (long v : row) {
            h = 31 * h + v;
        }
        return h;
    }

    private static void digest() {
        LoafWed x = new LoafWed();
        due("33: a new one", x.digest(), hash(0, 0, 0, 0, 0, 0, 0, 0, 0, 0, 1));
        x.damp(3);
        x.dry(4);
        x.kin(7);
        x.kin(8);
        x.pair(2, 1);
        x.year(1);
        x.pair(1, 30);
        x.counted(1, 5, 6);
        x.counted(0, 60, 0);
        x.year(2);
        x.mice(1, 1, 0);
        x.type(9);
        due("33: all that it has", x.digest(), hash(2, 2, 3, 28, 2, 2, 1, 3, 4,
            2, 0, 0, 0, 1, 28, 1, -1, 7, 8, 1, 5, 6, 0, 60, 0, 1, 1));
        due("33: it changes nothing", x.digest(), x.digest());
        due("33: no refusals", x.status(0) + x.status(1) + x.status(2), 0);
    }
}
