/** Promises 1 to 9: a new object, valley, damp, dry, pair, kin, type, clear, read. */
public final class ValleyTest {
    private static final Check CHECK = new Check();

    public static void main(String[] args) {
        aNewObject();
        valley();
        dampAndDry();
        pair();
        kin();
        typeAndClear();
        readAll();
        readFaults();
        readLimits();
        readTakesThePlace();
        CHECK.end("ValleyTest");
    }

    private static void due(String call, long got, long want) {
        CHECK.due(call, got, want);
    }

    private static void aNewObject() {
        LoafWed x = new LoafWed();
        for (int what = 0; what <= 6; what++) {
            due("1: count(" + what + ")", x.count(what), 0);
        }
        for (int what = 0; what <= 2; what++) {
            due("1: status(" + what + ")", x.status(what), 0);
        }
        due("1: above", x.part(0), 0);
        due("1: below", x.part(1), 1);
        due("1: no image", x.from(0), LoafWed.NO);
        due("1: no image", x.from(1), LoafWed.NO);
        due("1: damp", x.damp(0), 0);
        due("1: dry", x.dry(0), 0);
        x.pair(0, 1);
        due("1: no object knows another's pairs", new LoafWed().count(0), 0);
    }

    private static void valley() {
        LoafWed x = new LoafWed();
        due("2: none", x.valley(), 0);
        Check.write(x, "dry");
        x.pair(1, 20);
        x.pair(2, 30);
        x.kin(4);
        x.damp(9);
        x.dry(6);
        x.year(2);
        x.counted(0, 1, 1);
        x.mice(0, 1, 5);
        x.image(1);
        x.of(9, 9);
        due("2: pairs that were", x.valley(), 2);
        for (int what = 0; what <= 5; what++) {
            due("2: count(" + what + ")", x.count(what), 0);
        }
        due("2: damp", x.damp(0), 0);
        due("2: dry", x.dry(0), 0);
        due("2: the text stays", x.count(6), 3);
        due("2: the fraction stays", x.part(0), 1);
        due("2: status stays", x.status(0), 1);
        due("2: images stay", x.from(1), 1);
        due("2: images stay", x.count(0), 2);
    }

    private static void dampAndDry() {
        LoafWed x = new LoafWed();
        due("3: damp(4095)", x.damp(4095), 0);
        due("3: damp(0)", x.damp(0), 4095);
        due("3: damp(5)", x.damp(5), 0);
        due("3: damp(-1)", x.damp(-1), LoafWed.BAD);
        due("3: damp(4096)", x.damp(4096), LoafWed.BAD);
        due("3: stays", x.damp(5), 5);
        due("4: dry(4095)", x.dry(4095), 0);
        due("4: dry(2)", x.dry(2), 4095);
        due("4: dry(-1)", x.dry(-1), LoafWed.BAD);
        due("4: dry(4096)", x.dry(4096), LoafWed.BAD);
        due("4: stays", x.dry(0), 2);
        due("3, 4: refused", x.status(0), 4);
        x.pair(3, 60);
        x.damp(1 << 2);
        x.dry(1 << 2 | 1 << 4);
        x.year(14);
        due("3, 4: year 14 is damp and dry as year 2 is", x.of(0, 4), 4);
        x.year(2);
        due("4: year 16 is dry as year 4 is", x.of(0, 4), 2);
    }

    private static void pair() {
        LoafWed x = new LoafWed();
        due("5: pair(-1, 0)", x.pair(-1, 0), LoafWed.BAD);
        due("5: pair(6, 0)", x.pair(6, 0), LoafWed.BAD);
        due("5: pair(0, -1)", x.pair(0, -1), LoafWed.BAD);
        due("5: pair(0, 61)", x.pair(0, 61), LoafWed.BAD);
        due("5: none came", x.count(0), 0);
        due("5: first", x.pair(5, 60), 0);
        x.year(3);
        due("5: second", x.pair(4, 0), 1);
        due("5: kind", x.of(1, 0), 4);
        due("5: loaves", x.of(0, 1), 60);
        due("5: since 0", x.of(0, 2), 0);
        due("5: since 3", x.of(1, 2), 3);
        due("5: ended", x.of(1, 3), LoafWed.NONE);
        for (int p = 2; p < 6; p++) {
            due("5: more", x.pair(0, 1), p);
        }
        due("5: a 7th", x.pair(0, 1), LoafWed.FULL);
        due("5: BAD is ahead of FULL", x.pair(0, 61), LoafWed.BAD);
        due("5: refused", x.status(0), 5);
        due("5: full", x.status(2), 1);
    }

    private static void kin() {
        LoafWed x = new LoafWed();
        due("6: kin(0)", x.kin(0), LoafWed.BAD);
        due("6: kin(21)", x.kin(21), LoafWed.BAD);
        for (int k = 0; k < 8; k++) {
            due("6: kin", x.kin(k % 2 == 0 ? 1 : 20), k);
        }
        due("6: a 9th", x.kin(1), LoafWed.FULL);
        due("6: BAD is ahead of FULL", x.kin(0), LoafWed.BAD);
        due("6: how many", x.count(1), 8);
        due("6: refused", x.status(0), 3);
        due("6: full", x.status(2), 1);
    }

    private static void typeAndClear() {
        LoafWed x = new LoafWed();
        due("7: type(-1)", x.type(-1), LoafWed.BAD);
        due("7: type(128)", x.type(128), LoafWed.BAD);
        due("7: type(0)", x.type(0), 1);
        due("7: type(127)", x.type(127), 2);
        for (int i = 3; i <= 150; i++) {
            due("7: type(32)", x.type(32), i);
        }
        due("7: a 151st", x.type(32), LoafWed.FULL);
        due("7: BAD is ahead of FULL", x.type(128), LoafWed.BAD);
        due("7: how many", x.count(6), 150);
        due("8: clear", x.clear(), 150);
        due("8: clear", x.clear(), 0);
        due("7: type", x.type(59), 1);
        due("7: refused", x.status(0), 3);
        due("7: full", x.status(2), 1);
    }

    private static void readAll() {
        LoafWed x = new LoafWed();
        due("9: all items", Check.read(x, "valley;damp 2 03 11;dry 8;dry;dry 0;pair 5 60;pair0 00;kin 1;damp 4 2;kin20 ;  "), 10);
        due("9: pairs", x.count(0), 2);
        due("9: kin", x.count(1), 2);
        due("9: kind", x.of(0, 0), 5);
        due("9: loaves", x.of(0, 1), 60);
        due("9: since", x.of(0, 2), 0);
        due("9: ended", x.of(1, 3), LoafWed.NONE);
        due("9: damp, with those told ahead", x.damp(0), 1 << 2 | 1 << 3 | 1 << 11 | 1 << 4);
        due("9: dry, with those told ahead", x.dry(0), 1 << 8 | 1);
        due("9: valley alone", Check.read(x, "  valley  ;"), 1);
        due("9: none is left", x.count(0) + x.count(1), 0);
        due("9: the text stays", x.count(6), 11);
        due("9: read again", x.read(), 1);
    }

    private static void fault(String text, int place) {
        LoafWed x = new LoafWed();
        x.pair(1, 9);
        x.year(1);
        x.damp(7);
        long length = text.length();
        due("9: read of '" + text + "'", Check.read(x, text), -10 - place);
        due("9: all stays", x.count(0) * 1000000 + x.count(2) * 100000 + x.count(5) * 10000 + x.of(0, 1) * 100 + x.damp(0), 1110807);
        due("9: the text stays", x.count(6), length);
        due("9: a fault is no refusal", x.status(0) + x.status(1) + x.status(2), 0);
    }

    private static void readFaults() {
        fault("", 0);
        fault("   ", 3);
        fault("valley", 6);
        fault("valley ", 7);
        fault("vall", 0);
        fault("valleys;", 0);
        fault("Valley;", 0);
        fault(";", 0);
        fault("12;", 0);
        fault(" damp 1;valley;", 1);
        fault("valley 1;", 7);
        fault("valley;;", 7);
        fault("valley; valley;", 8);
        fault("valley;feast;", 7);
        fault("valley;7;", 7);
        fault("valley;damp", 11);
        fault("valley;damp 1", 13);
        fault("valley;damp 12;", 12);
        fault("valley;damp 1 2 99;", 16);
        fault("valley;dry 012;", 11);
        fault("valley;dry dry;", 11);
        fault("valley;dry 1,2;", 12);
        fault("valley;pair;", 11);
        fault("valley;pair 6 1;", 12);
        fault("valley;pair 0 61;", 14);
        fault("valley;pair 0 060;", 14);
        fault("valley;pair 0;", 13);
        fault("valley;pair 0 5", 15);
        fault("valley;pair 0 5 5;", 16);
        fault("valley;pair 05;", 14);
        fault("valley;kin;", 10);
        fault("valley;kin 0;", 11);
        fault("valley;kin 21;", 11);
        fault("valley;kin 20 1;", 14);
        fault("valley;kin -1;", 11);
        fault("valley;\tkin 1;", 7);
        fault("valley;kin 1\n;", 12);
        fault("valley;kin 1;x", 13);
        fault("valley\0;", 6);
    }

    private static void readLimits() {
        LoafWed x = new LoafWed();
        String six = "valley;pair 0 1;pair 0 1;pair 0 1;pair 0 1;pair 0 1;pair 0 1;";
        due("9: six pairs", Check.read(x, six), 7);
        due("9: a 7th at its word", Check.read(x, six + " pair 9 99"), -10 - six.length() - 1);
        String eight = "valley;kin 1;kin 2;kin 3;kin 4;kin 5;kin 6;kin 7;kin 8;";
        due("9: eight kin", Check.read(x, eight), 9);
        due("9: a 9th at its word", Check.read(x, eight + "kin"), -10 - eight.length());
        due("9: eight stay", x.count(1), 8);
        String longest = "valley;" + "damp;".repeat(28) + "   ";
        due("9: 150 bytes", Check.read(x, longest), 29);
        due("9: 150 bytes", x.count(6), 150);
    }

    private static void readTakesThePlace() {
        LoafWed x = new LoafWed();
        x.pair(0, 9);
        x.pair(1, 9);
        x.image(0);
        x.kin(3);
        x.damp(1);
        x.dry(2);
        x.counted(0, 0, 0);
        x.mice(0, 1, 1);
        x.year(3);
        x.undo();
        x.status(-1);
        due("9: read", Check.read(x, "valley;pair 2 8;"), 2);
        due("9: pairs", x.count(0), 1);
        due("9: kin", x.count(1), 0);
        due("9: the year", x.count(2), 0);
        due("9: loaves", x.count(3), 8);
        due("9: counted none", x.count(4), 0);
        due("9: nothing to undo", x.count(5), 0);
        due("9: undo", x.undo(), LoafWed.NO);
        due("9: damp", x.damp(0), 0);
        due("9: dry", x.dry(0), 0);
        due("9: the fraction stays", x.part(0), 1);
        due("9: status stays", x.status(0), 1);
        due("9: images stay", x.from(0), 1);
        due("9: images stay", x.count(0), 2);
    }
}
