/** The edges that the document names of the text and of reading it, each by its own words. */
public final class TextEdgesTest {
    private static final Check CHECK = new Check();

    public static void main(String[] args) {
        longest();
        tooLong();
        typeAndClear();
        itemsEndBySemicolon();
        valleyFirst();
        yearsOfADozen();
        pairsAndKin();
        tokens();
        firstFault();
        wordsThatAreNone();
        valleyAgainAndAhead();
        tooManyAtTheirWord();
        thirdFigures();
        numbersNotAsTold();
        bytesThatBeginNone();
        endsTooEarly();
        everyBeginning();
        takesThePlace();
        CHECK.end("TextEdgesTest");
    }

    private static void due(String call, long got, long want) {
        CHECK.due(call, got, want);
    }

    private static LoafWed items(String text, int many) {
        LoafWed x = new LoafWed();
        x.damp(64);
        x.dry(128);
        x.pair(0, 44);
        x.kin(4);
        due("read() of '" + text + "'", Check.read(x, text), many);
        return x;
    }

    /** All but the text stays as it was, and no refusal is counted. */
    private static void fault(String text, int place) {
        LoafWed x = new LoafWed();
        x.pair(1, 9);
        x.kin(7);
        x.damp(5);
        x.dry(6);
        x.year(2);
        x.counted(0, 3, 4);
        Check.write(x, text);
        long before = x.digest();
        due("read() of '" + text + "'", x.read(), -10 - place);
        due("digest() behind '" + text + "'", x.digest(), before);
        due("refused behind '" + text + "'", x.status(0) + x.status(1) + x.status(2), 0);
        due("undo() behind '" + text + "'", x.undo(), 1);
    }

    private static void longest() {
        CHECK.says("THE VALLEY is told by a TEXT (150 bytes at most)");
        LoafWed x = new LoafWed();
        Check.write(x, "valley;" + " ".repeat(136) + "kin 20;");
        due("bytes", x.count(6), 150);
        due("its last byte ends an item", x.read(), 2);
        due("the last item is read", x.count(1), 1);
        fault("valley;" + " ".repeat(142) + "-", 149);
        fault("valley;" + " ".repeat(140) + "kin", 150);
        fault(" ".repeat(150), 150);
        items("valley;" + "dry;".repeat(35) + "   ", 36);
        items("valley;dry0" + " 1".repeat(69) + ";", 2);
    }

    private static void tooLong() {
        LoafWed x = new LoafWed();
        Check.write(x, "valley;" + " ".repeat(137) + "kin 20");
        due("a 151st blank does not come", x.type(' '), -4);
        due("a 151st ; does not come", x.type(';'), -4);
        due("it ends too early", x.read(), -160);
        due("bytes", x.count(6), 150);
        due("full twice", x.status(2), 2);
    }

    private static void typeAndClear() {
        CHECK.says("A byte (0 .. 127) comes behind THE TEXT: how many it has. BAD; FULL.");
        LoafWed x = new LoafWed();
        for (int c = 0; c <= 127; c++) {
            due("type(" + c + ")", x.type(c), c + 1);
        }
        due("type(-1)", x.type(-1), -2);
        due("type(128)", x.type(128), -2);
        CHECK.says("THE TEXT is empty: how many it had.");
        due("clear()", x.clear(), 128);
        due("clear() of an empty one", x.clear(), 0);
        due("read() of an empty one", x.read(), -10);
        due("it begins again", x.type('v'), 1);
        x.clear();
        for (int i = 1; i <= 150; i++) {
            x.type(';');
        }
        due("clear() of a full one", x.clear(), 150);
        due("bytes", x.count(6), 0);
        due("there is room again", Check.read(x, "valley;"), 1);
    }

    private static void itemsEndBySemicolon() {
        CHECK.says("ITEMS, each ended by ;");
        fault("valley", 6);
        fault("valley damp;", 7);
        fault("valley;damp dry;", 12);
        fault("valley;pair 0 5 kin 3;", 16);
        fault("valley;kin 3 kin 3;", 13);
        fault("valley;kin 3", 12);
        fault("valley;kin 3;;", 13);
        fault("valley;kin 3:", 12);
    }

    private static void valleyFirst() {
        CHECK.says("valley (once, first of all)");
        LoafWed x = items("valley;", 1);
        due("pairs", x.count(0), 0);
        due("kin", x.count(1), 0);
        due("damp", x.damp(0), 0);
        due("dry", x.dry(0), 0);
        fault("valley;valley;", 7);
        fault("valley;kin 1;valley;", 13);
        fault("kin 1;valley;", 0);
    }

    private static void yearsOfADozen() {
        CHECK.says("damp and its YEARS (0 .. 11, any; besides those told ahead)");
        due("the first", items("valley;damp 0;", 2).damp(0), 1);
        due("the last", items("valley;damp 11;", 2).damp(0), 2048);
        due("none", items("valley;damp;", 2).damp(0), 0);
        due("all", items("valley;damp 11 10 9 8 7 6 5 4 3 2 1 0;", 2).damp(0), 4095);
        due("one twice", items("valley;damp 3 3;damp 3;", 3).damp(0), 8);
        due("those told ahead", items("valley;damp 1;kin 1;damp 2;damp;", 5).damp(0), 6);
        due("dry is not told", items("valley;damp 1;", 2).dry(0), 0);
        fault("valley;damp 12;", 12);
        fault("valley;damp 0 11 12 13;", 17);
        CHECK.says("dry and its YEARS (likewise)");
        due("the first", items("valley;dry 0;", 2).dry(0), 1);
        due("the last", items("valley;dry 11;", 2).dry(0), 2048);
        due("none", items("valley;dry;", 2).dry(0), 0);
        due("all", items("valley;dry 0 1 2 3 4 5 6 7 8 9 10 11;", 2).dry(0), 4095);
        due("one twice", items("valley;dry 3 3;dry 3;", 3).dry(0), 8);
        due("those told ahead", items("valley;dry 1;damp 3;dry 2;dry;", 5).dry(0), 6);
        due("damp is not told", items("valley;dry 1;", 2).damp(0), 0);
        fault("valley;dry 12;", 11);
        fault("valley;dry 0 11 99;", 16);
    }

    private static void pairsAndKin() {
        CHECK.says("pair KIND LOAVES");
        LoafWed x = items("valley;pair 0 0;pair 5 60;", 3);
        due("kind", x.of(0, 0), 0);
        due("no loaves", x.of(0, 1), 0);
        due("never was", x.of(0, 3), -1);
        due("kind", x.of(1, 0), 5);
        due("loaves", x.of(1, 1), 60);
        due("since", x.of(1, 2), 0);
        CHECK.says("kin FLOUR.");
        x = items("valley;kin 1;kin 20;pair 0 1;pair 0 1;", 5);
        due("both bring", x.gifts(0, 1, 1, 0), 21);
        due("the first has flour for 1, the second for 20", x.gifts(0, 1, 2, 0), -1);
    }

    private static void tokens() {
        CHECK.says("TOKENS: words of letters a .. z, figures (1 or 2 are one number), ; ; blanks (32) between.");
        items("valley;damp 1 2;pair 0 5;kin 3;", 4);
        items("  valley  ;  damp  1  2  ;  pair  0  5  ;  kin  3  ;  ", 4);
        items("valley;damp1 2;pair0 5;kin3;", 4);
        LoafWed x = items("valley;pair 05 09;pair 5 9;kin 02;", 4);
        due("two figures are one number", x.of(0, 0), 5);
        due("two figures are one number", x.of(0, 1), 9);
        due("one figure, too", x.of(1, 1), 9);
        fault("valley;pair 05;", 14);
        fault("valley;pair 0 5 9;", 16);
        fault("val ley;", 0);
        fault("valley;ki n 3;", 7);
        fault("valleykin 3;", 0);
        fault("valley;kin3kin4;", 11);
    }

    private static void firstFault() {
        CHECK.says("FAULT: the place of the first byte of the first TOKEN that can not stand there");
        fault("valley;pair 9 99;kin 99;feast;", 12);
        fault("valley;   feast;-", 10);
        fault("   valleys;", 3);
        fault("valley;kin 1;pair 0 1;dry 5 ,;", 28);
    }

    private static void wordsThatAreNone() {
        CHECK.says("a word that is none");
        for (String word : new String[] {"xalley", "valleyx", "valle", "v", "valex", "dam", "alley", "a", "zz"}) {
            fault(word + ";", 0);
        }
        for (String word : new String[] {"dam", "damps", "xamp", "dr", "dryy", "xry", "drx", "pai", "pairs", "xair", "paix",
            "ki", "kins", "xin", "kix", "x", "z", "feast", "dampdry", "years"}) {
            fault("valley;" + word + " 1;", 7);
            fault("valley;kin 1; " + word, 14);
        }
    }

    private static void valleyAgainAndAhead() {
        CHECK.says("valley again, anything ahead of it");
        fault("valley;damp 1; valley", 15);
        fault("valley valley;", 7);
        fault("valley;damp valley;", 12);
        fault("damp;valley;", 0);
        fault("dry 3;valley;", 0);
        fault("pair 0 5;valley;", 0);
        fault("kin 3;valley;", 0);
        fault(";valley;", 0);
        fault("5 valley;", 0);
        fault("-valley;", 0);
        fault(" \tvalley;", 1);
    }

    private static void tooManyAtTheirWord() {
        CHECK.says("a 7th pair, a 9th kin at its word");
        String six = "valley;" + "pair 5 60;".repeat(6);
        due("six", items(six, 7).count(0), 6);
        fault(six + "pair 0 5;", 67);
        fault(six + "  pair", 69);
        fault(six + "pair -", 67);
        fault(six + "pairs", 67);
        due("kin behind six", items(six + "kin 1;", 8).count(1), 1);
        String eight = "valley;" + "kin 20;".repeat(8);
        due("eight", items(eight, 9).count(1), 8);
        fault(eight + "kin 5;", 63);
        fault(eight + " kin", 64);
        fault(eight + "kin 99;", 63);
        due("a pair behind eight", items(eight + "pair 1 1;", 10).count(0), 1);
    }

    private static void thirdFigures() {
        CHECK.says("a third figure's number");
        fault("valley;pair 0 007;", 14);
        fault("valley;pair 000 7;", 12);
        fault("valley;kin 100;", 11);
        fault("valley;kin 0001;", 11);
        fault("valley;damp 000;", 12);
        fault("valley;damp 1 011;", 14);
        fault("valley;dry 1 2 345", 15);
        fault("valley;kin 1 000;", 13);
        fault("000;", 0);
        fault("valley;kin 99999999999999999999;", 11);
    }

    private static void numbersNotAsTold() {
        CHECK.says("a number not as told");
        fault("valley;pair 6 5;", 12);
        fault("valley;pair 99 5;", 12);
        fault("valley;pair 0 61;", 14);
        fault("valley;pair 0 99;", 14);
        fault("valley;kin 0;", 11);
        fault("valley;kin 00;", 11);
        fault("valley;kin 21;", 11);
        fault("valley;damp 12;", 12);
        fault("valley;damp 99;", 12);
        fault("valley;dry 19;", 11);
    }

    private static void bytesThatBeginNone() {
        CHECK.says("a byte that begins none, too");
        for (char c = 0; c <= 127; c++) {
            if (c == ' ') {
                items("valley;" + c, 1);
            } else {
                fault("valley;" + c, 7);
                fault("valley; " + c + "kin 3;", 8);
            }
            boolean begins = c == ' ' || c == ';' || c >= 'a' && c <= 'z' || c >= '0' && c <= '9';
            if (!begins) {
                fault(c + "valley;", 0);
                fault("val" + c + "ley;", 0);
                fault("valley" + c + ";", 6);
                fault("valley;damp 1" + c + "2;", 13);
                fault("valley;pair 0 5" + c, 15);
                fault("valley;kin " + c + "3;", 11);
            }
        }
    }

    private static void endsTooEarly() {
        CHECK.says("the TEXT's length, if it ends too early (an empty one, too)");
        fault("", 0);
        fault(" ", 1);
        fault("valley", 6);
        fault("valley ", 7);
        fault("valley;damp", 11);
        fault("valley;damp ", 12);
        fault("valley;damp 1", 13);
        fault("valley;dry", 10);
        fault("valley;dry 1 2 ", 15);
        fault("valley;pair", 11);
        fault("valley;pair 0", 13);
        fault("valley;pair 0 ", 14);
        fault("valley;pair 0 60", 16);
        fault("valley;kin", 10);
        fault("valley;kin 20", 13);
        fault("valley;kin 20  ", 15);
    }

    /** A text cut off anywhere: at an item's end it is whole, within a word it has a word that is none. */
    private static void everyBeginning() {
        String text = "valley;dry 1;pair 0 60;kin 2;";
        int[] answers = {-10, -10, -10, -10, -10, -10, -16, 1, -17, -17, -20, -21, -22, 2, -23, -23, -23, -27, -28, -29,
            -30, -31, -32, 3, -33, -33, -36, -37, -38, 4};
        for (int end = 0; end <= text.length(); end++) {
            LoafWed x = new LoafWed();
            due("read() of '" + text.substring(0, end) + "'", Check.read(x, text.substring(0, end)), answers[end]);
        }
    }

    private static void takesThePlace() {
        CHECK.says("A VALLEY that is read takes the place of all but IMAGES, THE TEXT, THE FRACTION, STATUS (YEAR 0, COUNTED none; nothing to undo).");
        LoafWed x = new LoafWed();
        for (int p = 0; p < 6; p++) {
            x.pair(p, 10);
        }
        for (int k = 0; k < 8; k++) {
            x.kin(9);
            x.counted(k % 6, k, k);
        }
        x.damp(3);
        x.dry(5);
        x.year(3);
        x.image(0);
        x.mice(0, 1, 10);
        x.pair(9, 9);
        x.undo();
        due("read()", Check.read(x, "valley;pair 4 7;kin 2;damp 4;dry 5;"), 5);
        int[] want = {1, 1, 0, 7, 0, 0, 35};
        for (int what = 0; what <= 6; what++) {
            due("count(" + what + ")", x.count(what), want[what]);
        }
        due("undo()", x.undo(), -3);
        due("damp", x.damp(0), 16);
        due("dry", x.dry(0), 32);
        due("since", x.of(0, 2), 0);
        due("the fraction stays", x.part(0) * 10 + x.part(1), 11);
        due("BAD stays", x.status(0), 1);
        due("NO stays, with one more", x.status(1), 1);
        due("the image stays", x.from(0), 1);
        due("its pairs", x.count(0), 6);
        due("its year", x.undo(), 2);
        due("read() again", x.read(), 5);
        due("the same", x.count(3), 7);
    }
}
