import java.util.Random;

/** Long rows of calls by chance (with fixed seeds), each answered by LoafWed and by the Model alike. */
public final class ModelTest {
    private static final int RUNS = 2400;
    /** What an object answers beyond 512 calls is free; a step with a text may need some 160 of them. */
    private static final int CALLS = 512 - 160 - 10;
    private static final String[] WORDS = {"valley", "damp", "dry", "pair", "kin", "pairs", "v", ";", " ", "0", "7", "12", "60", "061", "A", "-"};

    private final Check check = new Check();
    private final Random random;
    private final LoafWed x = new LoafWed();
    private final Model m = new Model();
    private final String run;
    private int wrong = 0;
    private int calls = 0;

    private ModelTest(int seed) {
        random = new Random(seed);
        run = "run " + seed + ": ";
    }

    public static void main(String[] args) {
        int failed = 0;
        for (int seed = 0; seed < RUNS; seed++) {
            failed += new ModelTest(seed).live();
            if (failed > 20) {
                break;
            }
        }
        System.out.println("ModelTest: " + RUNS + " runs, " + failed + " wrong answers");
        if (failed != 0) {
            System.exit(1);
        }
    }

    private int live() {
        while (calls < CALLS && wrong == 0) {
            step();
            due("digest()", x.digest(), m.digest());
        }
        for (int what = 0; what < 3; what++) {
            due("status(" + what + ")", x.status(what), m.status(what));
        }
        if (calls > 512) {
            wrong++;
            System.out.println(run + "an object was asked " + calls + " times");
        }
        return wrong;
    }

    private void due(String call, long got, long want) {
        calls++;
        if (got != want) {
            wrong++;
        }
        check.due(run + call, got, want);
    }

    /** Mostly a number as told, now and then one beside it. */
    private int n(int from, int to) {
        int dice = random.nextInt(60);
        if (dice == 0) {
            return from - 1;
        }
        if (dice == 1) {
            return to + 1;
        }
        return from + random.nextInt(to - from + 1);
    }

    private int p() {
        int pairs = m.s.pairs.size();
        return pairs == 0 ? n(0, 5) : n(0, pairs - 1);
    }

    private void step() {
        switch (random.nextInt(24)) {
            case 0:
                change();
                break;
            case 1:
                text();
                break;
            case 2:
                images();
                break;
            case 3:
            case 4:
                come();
                break;
            case 5:
            case 6:
            case 7:
            case 8:
                years();
                break;
            case 9:
            case 10:
            case 11:
            case 12:
            case 13:
                foresee();
                break;
            case 14:
            case 15:
            case 16:
            case 17:
            case 18:
                counted();
                break;
            default:
                ask();
        }
    }

    private void change() {
        int a = n(0, 4095);
        switch (random.nextInt(6)) {
            case 0:
                due("damp(" + a + ")", x.damp(a), m.damp(a));
                break;
            case 1:
                due("dry(" + a + ")", x.dry(a), m.dry(a));
                break;
            case 2:
                a = random.nextInt(3) == 0 ? 4095 : 4095 & ~(1 << random.nextInt(12));
                due("dry(" + a + ")", x.dry(a), m.dry(a));
                break;
            case 3:
                due("valley()", x.valley(), m.valley());
                break;
            default:
                due("forget()", x.forget(), m.forget());
        }
    }

    private void come() {
        int kind = n(0, 5);
        int loaves = random.nextBoolean() ? n(0, 60) : n(0, 12);
        int flour = n(1, 20);
        if (random.nextBoolean()) {
            due("pair(" + kind + ", " + loaves + ")", x.pair(kind, loaves), m.pair(kind, loaves));
        } else {
            due("kin(" + flour + ")", x.kin(flour), m.kin(flour));
        }
    }

    private void text() {
        StringBuilder b = new StringBuilder("valley;");
        int items = random.nextInt(18);
        for (int i = 0; i < items; i++) {
            switch (random.nextInt(4)) {
                case 0:
                    b.append(random.nextBoolean() ? "damp" : "dry");
                    for (int k = random.nextInt(4); k > 0; k--) {
                        b.append(' ').append(random.nextInt(12));
                    }
                    break;
                case 1:
                    b.append("kin ").append(n(1, 20));
                    break;
                default:
                    b.append("pair ").append(random.nextInt(6)).append("  ").append(n(0, 60));
            }
            b.append(random.nextInt(4) == 0 ? " ; " : ";");
        }
        for (int spoil = random.nextInt(3); spoil > 0; spoil--) {
            int at = random.nextInt(b.length() + 1);
            int to = Math.min(b.length(), at + random.nextInt(4));
            b.replace(at, to, WORDS[random.nextInt(WORDS.length)]);
        }
        b.setLength(Math.min(b.length(), 155));
        due("clear()", x.clear(), m.clear());
        for (int i = 0; i < b.length(); i++) {
            due("type()", x.type(b.charAt(i)), m.type(b.charAt(i)));
        }
        int wild = random.nextInt(150) - 10;
        if (random.nextInt(10) == 0) {
            due("type(" + wild + ")", x.type(wild), m.type(wild));
        }
        due("read() of " + b, x.read(), m.read());
    }

    private void images() {
        int i = n(0, 1);
        if (random.nextBoolean()) {
            due("image(" + i + ")", x.image(i), m.image(i));
        } else {
            due("from(" + i + ")", x.from(i), m.from(i));
        }
    }

    private void years() {
        int p = p();
        int n = random.nextInt(4) > 0 ? n(1, 3) : n(1, 60);
        int g = random.nextBoolean() ? n(-60, 60) : n(-3, 9);
        switch (random.nextInt(4)) {
            case 0:
                due("year(" + n + ")", x.year(n), m.year(n));
                break;
            case 1:
                due("undo()", x.undo(), m.undo());
                break;
            default:
                due("give(" + p + ", " + g + ")", x.give(p, g), m.give(p, g));
        }
    }

    private void foresee() {
        int a = p();
        int b = p();
        int t = n(1, 60);
        int far = n(0, 99);
        int what = n(0, 2);
        switch (random.nextInt(6)) {
            case 0:
                due("left(" + a + ", " + far + ")", x.left(a, far), m.left(a, far));
                break;
            case 1:
                due("till(" + a + ")", x.till(a), m.till(a));
                break;
            case 2:
                due("together(" + what + ")", x.together(what), m.together(what));
                break;
            case 3:
                due("drought(" + (t - 1) + ")", x.drought(t - 1), m.drought(t - 1));
                break;
            default:
                due("gifts(" + a + ", " + b + ", " + t + ", " + what + ")", x.gifts(a, b, t, what), m.gifts(a, b, t, what));
        }
    }

    private void counted() {
        int p = p();
        int k = n(-1, 15);
        switch (random.nextInt(6)) {
            case 0:
                count(p);
                break;
            case 1:
                due("is(" + p + ")", x.is(p), m.is(p));
                break;
            case 2:
                due("next(" + p + ")", x.next(p), m.next(p));
                break;
            case 3:
                due("swapped(-1)", x.swapped(-1), m.swapped(-1));
                due("swapped(" + k + ")", x.swapped(k), m.swapped(k));
                break;
            default:
                due("back()", x.back(), m.back());
        }
    }

    /** Counts what is so of some kind, of a swap, or with a loaf put back: else no question has a rich answer. */
    private void count(int p) {
        int years = n(0, 60);
        int v = n(0, 60);
        if (m.s.isPair(p) && years >= 0 && years <= 60 && random.nextInt(8) > 0) {
            Model.State then = m.s.copyWithoutPast();
            Model.Pair pair = then.pairs.get(p);
            int way = random.nextInt(4);
            if (way == 0) {
                pair.kind = random.nextInt(6);
            } else if (way == 1) {
                pair.loaves = then.pairs.get(random.nextInt(then.pairs.size())).loaves;
            }
            for (int y = 0; y < years; y++) {
                if (way == 2 && pair.loaves > 0 && pair.loaves < 60) {
                    pair.loaves++;
                }
                then.pass();
            }
            v = pair.loaves;
        }
        due("counted(" + p + ", " + years + ", " + v + ")", x.counted(p, years, v), m.counted(p, years, v));
    }

    private void ask() {
        int p = p();
        int what = n(0, 4);
        int few = n(0, 1);
        int t = random.nextInt(5) > 0 ? n(0, 5) : n(0, 12);
        int c = n(0, 10);
        int seed = n(0, 999999);
        int n = n(0, 60);
        int w = n(0, 100);
        switch (random.nextInt(7)) {
            case 0:
                due("of(" + p + ", " + what + ")", x.of(p, what), m.of(p, what));
                break;
            case 1:
                due("crusts(" + p + ", " + few + ")", x.crusts(p, few), m.crusts(p, few));
                break;
            case 2:
                due("mice(" + p + ", " + t + ", " + c + ")", x.mice(p, t, c), m.mice(p, t, c));
                break;
            case 3:
                due("years(" + seed + ", " + n + ", " + w + ")", x.years(seed, n, w), m.years(seed, n, w));
                break;
            case 4:
                due("part(" + few + ")", x.part(few), m.part(few));
                break;
            case 5:
                due("count(" + what + ")", x.count(what), m.count(what));
                break;
            default:
                due("status(" + what + ")", x.status(what), m.status(what));
        }
    }
}
