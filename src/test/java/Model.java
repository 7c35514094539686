import java.math.BigInteger;
import java.util.ArrayList;
import java.util.List;
import java.util.regex.Matcher;
import java.util.regex.Pattern;

/**
 * The document once more, in the slowest and most literal form: whole valleys are copied and
 * lived through year by year, and every choice is tried. It shares no code with LoafWed.
 */
final class Model {
    static final class Pair {
        int kind;
        int loaves;
        int since;
        int ended = -1;

        Pair copy() {
            Pair p = new Pair();
            p.kind = kind;
            p.loaves = loaves;
            p.since = since;
            p.ended = ended;
            return p;
        }
    }

    static final class State {
        int year;
        boolean[] damp = new boolean[12];
        boolean[] dry = new boolean[12];
        List<Pair> pairs = new ArrayList<>();
        List<Integer> kin = new ArrayList<>();
        List<int[]> counted = new ArrayList<>();
        List<State> past = new ArrayList<>();

        State copyWithoutPast() {
            State s = new State();
            s.year = year;
            s.damp = damp.clone();
            s.dry = dry.clone();
            for (Pair p : pairs) {
                s.pairs.add(p.copy());
            }
            s.kin.addAll(kin);
            s.counted.addAll(counted);
            return s;
        }

        State copy() {
            State s = copyWithoutPast();
            s.past.addAll(past);
            return s;
        }

        int goes(int kind) {
            switch (kind) {
                case 0:
                    return dry[year % 12] ? 2 : 1;
                case 1:
                    return year % 2 == 0 ? goes(0) : 0;
                case 2:
                    return goes(0) + (year % 5 == 4 ? 2 : 0);
                case 3:
                    return goes(0) * (damp[year % 12] ? 2 : 1);
                case 4:
                    return goes(2) + (year % 3 == 2 ? 1 : 0);
                case 5:
                    return year % 5 == 4 ? goes(1) : Math.max(goes(1) - 1, 0);
                default:
                    throw new IllegalStateException();
            }
        }

        int pass() {
            int bits = 0;
            for (int i = 0; i < pairs.size(); i++) {
                Pair p = pairs.get(i);
                if (p.loaves == 0) {
                    continue;
                }
                p.loaves -= Math.min(p.loaves, goes(p.kind));
                if (p.loaves == 0) {
                    p.ended = year;
                    bits += 1 << i;
                }
            }
            year++;
            return bits;
        }

        State after(int m) {
            State s = copyWithoutPast();
            for (int i = 0; i < m; i++) {
                s.pass();
            }
            return s;
        }

        int all() {
            return pairs.stream().mapToInt(p -> p.loaves).sum();
        }

        boolean isPair(int p) {
            return 0 <= p && p < pairs.size();
        }

        boolean allCounted(int onlyOf) {
            for (int[] c : counted) {
                if (onlyOf >= 0 && c[0] != onlyOf) {
                    continue;
                }
                if (after(c[1]).pairs.get(c[0]).loaves != c[2]) {
                    return false;
                }
            }
            return true;
        }
    }

    State s = new State();
    private final State[] images = new State[2];
    private String text = "";
    private BigInteger above = BigInteger.ZERO;
    private BigInteger below = BigInteger.ONE;
    private final int[] refused = new int[3];

    private int bad() {
        refused[0]++;
        return -2;
    }

    private int badTen() {
        refused[0]++;
        return -10;
    }

    private int no() {
        refused[1]++;
        return -3;
    }

    private int full() {
        refused[2]++;
        return -4;
    }

    private static boolean out(int n, int from, int to) {
        return n < from || n > to;
    }

    private static int bits(boolean[] b) {
        int all = 0;
        for (int i = 0; i < b.length; i++) {
            all += b[i] ? 1 << i : 0;
        }
        return all;
    }

    private static boolean[] flags(int bits) {
        boolean[] b = new boolean[12];
        for (int i = 0; i < 12; i++) {
            b[i] = (bits & 1 << i) != 0;
        }
        return b;
    }

    int valley() {
        int n = s.pairs.size();
        s = new State();
        return n;
    }

    int damp(int years) {
        if (out(years, 0, 4095)) {
            return bad();
        }
        int were = bits(s.damp);
        s.damp = flags(years);
        return were;
    }

    int dry(int years) {
        if (out(years, 0, 4095)) {
            return bad();
        }
        int were = bits(s.dry);
        s.dry = flags(years);
        return were;
    }

    int pair(int kind, int loaves) {
        if (out(kind, 0, 5) || out(loaves, 0, 60)) {
            return bad();
        }
        if (s.pairs.size() == 6) {
            return full();
        }
        Pair p = new Pair();
        p.kind = kind;
        p.loaves = loaves;
        p.since = s.year;
        s.pairs.add(p);
        s.past.clear();
        return s.pairs.size() - 1;
    }

    int kin(int flour) {
        if (out(flour, 1, 20)) {
            return bad();
        }
        if (s.kin.size() == 8) {
            return full();
        }
        s.kin.add(flour);
        return s.kin.size() - 1;
    }

    int type(int c) {
        if (out(c, 0, 127)) {
            return bad();
        }
        if (text.length() == 150) {
            return full();
        }
        text += (char) c;
        return text.length();
    }

    int clear() {
        int n = text.length();
        text = "";
        return n;
    }

    private static final Pattern TOKEN = Pattern.compile(" *([a-z]+|[0-9]+|;|[^ ])");

    int read() {
        List<String> tokens = new ArrayList<>();
        List<Integer> places = new ArrayList<>();
        Matcher m = Pattern.compile(TOKEN.pattern(), Pattern.DOTALL).matcher(text);
        while (m.find()) {
            tokens.add(m.group(1));
            places.add(m.start(1));
        }
        tokens.add("");
        places.add(text.length());
        State told = new State();
        int items = 0;
        int at = 0;
        while (true) {
            if (items > 0 && tokens.get(at).isEmpty()) {
                s = told;
                return items;
            }
            int behind = item(told, tokens, at, items == 0);
            if (behind < 0) {
                return -10 - places.get(-1 - behind);
            }
            at = behind;
            items++;
        }
    }

    private static boolean number(String token, int from, int to) {
        return token.matches("[0-9]{1,2}") && !out(Integer.parseInt(token), from, to);
    }

    /** The token behind the item; -1 less the token that can not stand there. */
    private static int item(State told, List<String> tokens, int at, boolean first) {
        String word = tokens.get(at);
        int i = at + 1;
        if (first != word.equals("valley")) {
            return -1 - at;
        }
        switch (word) {
            case "valley":
                break;
            case "damp":
            case "dry":
                for (; number(tokens.get(i), 0, 11); i++) {
                    (word.equals("dry") ? told.dry : told.damp)[Integer.parseInt(tokens.get(i))] = true;
                }
                break;
            case "pair":
                if (told.pairs.size() == 6) {
                    return -1 - at;
                }
                Pair p = new Pair();
                if (!number(tokens.get(i), 0, 5)) {
                    return -1 - i;
                }
                p.kind = Integer.parseInt(tokens.get(i++));
                if (!number(tokens.get(i), 0, 60)) {
                    return -1 - i;
                }
                p.loaves = Integer.parseInt(tokens.get(i++));
                told.pairs.add(p);
                break;
            case "kin":
                if (told.kin.size() == 8) {
                    return -1 - at;
                }
                if (!number(tokens.get(i), 1, 20)) {
                    return -1 - i;
                }
                told.kin.add(Integer.parseInt(tokens.get(i++)));
                break;
            default:
                return -1 - at;
        }
        return tokens.get(i).equals(";") ? i + 1 : -1 - i;
    }

    private void keepPast() {
        s.past.add(s.copyWithoutPast());
        if (s.past.size() > 8) {
            s.past.remove(0);
        }
    }

    int year(int n) {
        if (out(n, 1, 60)) {
            return bad();
        }
        int bits = 0;
        for (int i = 0; i < n; i++) {
            keepPast();
            bits |= s.pass();
        }
        return bits;
    }

    int give(int pair, int n) {
        if (!s.isPair(pair) || out(n, -60, 60)) {
            return badTen();
        }
        Pair p = s.pairs.get(pair);
        if (p.loaves == 0 || p.loaves + n < 1 || p.loaves + n > 60) {
            return no();
        }
        keepPast();
        p.loaves += n;
        return p.loaves;
    }

    int undo() {
        if (s.past.isEmpty()) {
            return no();
        }
        State then = s.past.remove(s.past.size() - 1);
        for (int i = 0; i < s.pairs.size(); i++) {
            s.pairs.get(i).loaves = then.pairs.get(i).loaves;
            s.pairs.get(i).ended = then.pairs.get(i).ended;
        }
        s.year = then.year;
        return s.year;
    }

    int of(int pair, int what) {
        if (!s.isPair(pair) || out(what, 0, 4)) {
            return badTen();
        }
        Pair p = s.pairs.get(pair);
        return new int[] {p.kind, p.loaves, p.since, p.ended, s.goes(p.kind)}[what];
    }

    int left(int pair, int m) {
        if (!s.isPair(pair) || out(m, 0, 99)) {
            return bad();
        }
        return s.after(m).pairs.get(pair).loaves;
    }

    int till(int pair) {
        if (!s.isPair(pair)) {
            return bad();
        }
        return s.after(99).pairs.get(pair).ended;
    }

    int together(int what) {
        if (out(what, 0, 1)) {
            return bad();
        }
        State later = s.copyWithoutPast();
        int best = 0;
        int bestYear = -1;
        for (int i = 0; i < 99; i++) {
            int bits = later.pass();
            if (Integer.bitCount(bits) >= 2 && Integer.bitCount(bits) > Integer.bitCount(best)) {
                best = bits;
                bestYear = later.year - 1;
            }
        }
        return bestYear < 0 ? -1 : what == 0 ? bestYear : best;
    }

    int gifts(int a, int b, int t, int what) {
        if (!s.isPair(a) || !s.isPair(b) || a == b || out(t, 1, 60) || out(what, 0, 2)) {
            return bad();
        }
        int[] best = null;
        int n = s.kin.size();
        int rows = (int) Math.pow(3, n);
        for (int row = 0; row < rows; row++) {
            int[] got = new int[3];
            int[] who = new int[3];
            int rest = row;
            for (int k = n - 1; k >= 0; k--) {
                got[rest % 3] += s.kin.get(k);
                who[rest % 3] += 1 << k;
                rest /= 3;
            }
            int brought = got[1] + got[2];
            if (best != null && brought >= best[0]) {
                continue;
            }
            State then = new State();
            then.year = s.year;
            then.damp = s.damp;
            then.dry = s.dry;
            then.pairs.add(s.pairs.get(a).copy());
            then.pairs.add(s.pairs.get(b).copy());
            then.pairs.get(0).loaves += got[1];
            then.pairs.get(1).loaves += got[2];
            for (int y = 0; y < t; y++) {
                then.pass();
            }
            if (then.pairs.get(0).loaves > 0 && then.pairs.get(1).loaves > 0) {
                best = new int[] {brought, who[1], who[2]};
            }
        }
        return best == null ? -1 : best[what];
    }

    int drought(int m) {
        if (out(m, 0, 60)) {
            return bad();
        }
        int best = -1;
        int fewest = Integer.MAX_VALUE;
        for (int d = 0; d < 12; d++) {
            State then = s.copyWithoutPast();
            if (then.dry[d]) {
                continue;
            }
            then.dry[d] = true;
            int all = then.after(m).all();
            if (all < fewest) {
                fewest = all;
                best = d;
            }
        }
        return best;
    }

    int counted(int pair, int m, int v) {
        if (!s.isPair(pair) || out(m, 0, 60) || out(v, 0, 60)) {
            return bad();
        }
        if (s.counted.size() == 8) {
            return full();
        }
        s.counted.add(new int[] {pair, m, v});
        return s.counted.size();
    }

    int forget() {
        int n = s.counted.size();
        s.counted.clear();
        return n;
    }

    int is(int pair) {
        if (!s.isPair(pair)) {
            return bad();
        }
        int bits = 0;
        for (int k = 0; k < 6; k++) {
            State then = s.copyWithoutPast();
            then.pairs.get(pair).kind = k;
            if (then.allCounted(pair)) {
                bits += 1 << k;
            }
        }
        return bits;
    }

    int next(int pair) {
        if (!s.isPair(pair)) {
            return bad();
        }
        int kinds = is(pair);
        if (kinds == 0) {
            return -1;
        }
        int best = -1;
        int fewest = 7;
        for (int m = 0; m <= 60; m++) {
            int[] many = new int[61];
            int most = 0;
            for (int k = 0; k < 6; k++) {
                if ((kinds & 1 << k) != 0) {
                    State then = new State();
                    then.year = s.year;
                    then.damp = s.damp;
                    then.dry = s.dry;
                    Pair p = s.pairs.get(pair).copy();
                    p.kind = k;
                    then.pairs.add(p);
                    most = Math.max(most, ++many[then.after(m).pairs.get(0).loaves]);
                }
            }
            if (most < fewest) {
                fewest = most;
                best = m;
            }
        }
        return best;
    }

    int swapped(int k) {
        if (k < -1) {
            return badTen();
        }
        List<Integer> found = new ArrayList<>();
        for (int j = 0; j < 6; j++) {
            for (int i = 0; i < j; i++) {
                if (s.isPair(j)) {
                    State then = s.copyWithoutPast();
                    then.pairs.get(i).loaves = s.pairs.get(j).loaves;
                    then.pairs.get(j).loaves = s.pairs.get(i).loaves;
                    if (then.allCounted(-1)) {
                        found.add(10 * i + j);
                    }
                }
            }
        }
        found.sort(null);
        return k == -1 ? found.size() : k < found.size() ? found.get(k) : -5;
    }

    int back() {
        int bits = 0;
        for (int p = 0; p < s.pairs.size(); p++) {
            boolean so = true;
            for (int[] c : s.counted) {
                State then = s.copyWithoutPast();
                Pair helped = then.pairs.get(p);
                for (int y = 0; y < c[1]; y++) {
                    if (helped.loaves > 0 && helped.loaves < 60) {
                        helped.loaves++;
                    }
                    then.pass();
                }
                so &= then.pairs.get(c[0]).loaves == c[2];
            }
            bits += so ? 1 << p : 0;
        }
        return bits;
    }

    /** Whether the one whose turn it is wins. */
    private static boolean[] wins() {
        boolean[] w = new boolean[61];
        w[0] = true;
        for (int n = 1; n <= 60; n++) {
            for (int b = 1; b <= 3 && b <= n; b++) {
                w[n] |= !w[n - b];
            }
        }
        return w;
    }

    int crusts(int pair, int what) {
        if (!s.isPair(pair) || out(what, 0, 1)) {
            return bad();
        }
        boolean[] w = wins();
        int n = s.pairs.get(pair).loaves;
        if (what == 0) {
            return w[n] ? 1 : 0;
        }
        for (int b = 1; b <= 3 && b <= n; b++) {
            if (!w[n - b]) {
                return b;
            }
        }
        return 0;
    }

    /** Every row of years in which the mice come or stay away, with its weight. */
    private BigInteger ways(State then, int t, int c) {
        if (t == 0) {
            return then.pairs.get(0).loaves > 0 ? BigInteger.ONE : BigInteger.ZERO;
        }
        State away = then.after(1);
        State come = then.after(1);
        Pair p = come.pairs.get(0);
        p.loaves = Math.max(0, p.loaves - 1);
        return ways(away, t - 1, c).multiply(BigInteger.valueOf(10 - c))
            .add(ways(come, t - 1, c).multiply(BigInteger.valueOf(c)));
    }

    int mice(int pair, int t, int c) {
        if (!s.isPair(pair) || out(t, 0, 12) || out(c, 0, 10)) {
            return bad();
        }
        State then = s.copyWithoutPast();
        Pair p = then.pairs.get(pair);
        then.pairs.clear();
        then.pairs.add(p);
        BigInteger some = ways(then, t, c);
        BigInteger all = BigInteger.TEN.pow(t);
        BigInteger by = some.gcd(all);
        above = some.divide(by);
        below = all.divide(by);
        return 1;
    }

    int years(int seed, int n, int w) {
        if (out(seed, 0, 999999) || out(n, 0, 60) || out(w, 0, 100)) {
            return bad();
        }
        State then = s.copyWithoutPast();
        BigInteger x = BigInteger.valueOf(seed);
        for (int y = 0; y < n; y++) {
            then.pass();
            for (Pair p : then.pairs) {
                x = x.multiply(BigInteger.valueOf(1103515245)).add(BigInteger.valueOf(12345)).mod(BigInteger.ONE.shiftLeft(31));
                if (x.shiftRight(16).mod(BigInteger.valueOf(100)).intValue() < w && p.loaves > 0) {
                    p.loaves--;
                }
            }
        }
        return then.all();
    }

    long part(int what) {
        if (out(what, 0, 1)) {
            return bad();
        }
        return (what == 0 ? above : below).longValueExact();
    }

    int image(int i) {
        if (out(i, 0, 1)) {
            return bad();
        }
        images[i] = s.copy();
        return 1;
    }

    int from(int i) {
        if (out(i, 0, 1)) {
            return bad();
        }
        if (images[i] == null) {
            return no();
        }
        s = images[i].copy();
        return 1;
    }

    int status(int what) {
        if (out(what, 0, 2)) {
            bad();
            return -1;
        }
        return refused[what];
    }

    int count(int what) {
        if (out(what, 0, 6)) {
            return bad();
        }
        return new int[] {s.pairs.size(), s.kin.size(), s.year, s.all(), s.counted.size(), s.past.size(), text.length()}[what];
    }

    long digest() {
        List<Long> row = new ArrayList<>();
        for (int i = 0; i <= 6; i++) {
            row.add((long) count(i));
        }
        row.add((long) bits(s.damp));
        row.add((long) bits(s.dry));
        for (Pair p : s.pairs) {
            row.addAll(List.of((long) p.kind, (long) p.loaves, (long) p.since, (long) p.ended));
        }
        for (int flour : s.kin) {
            row.add((long) flour);
        }
        for (int[] c : s.counted) {
            row.addAll(List.of((long) c[0], (long) c[1], (long) c[2]));
        }
        row.add(above.longValueExact());
        row.add(below.longValueExact());
        long h = 1049;
        for (long v : row) {
            h = 31 * h + v;
        }
        return h;
    }
}
