import java.math.BigInteger;
import java.util.ArrayList;
import java.util.Arrays;
import java.util.List;
import java.util.Random;

/**
 * Random runs of calls, each answer against a slow model that is written another way: it keeps only what was set
 * and answered, makes everything else anew for every call, and counts with BigInteger.
 */
public final class ModelTest {
    static final int BAD = -2, STATE = -3, FULL = -4, GREAT = -7, NO_WAY = -8;
    static final int MISSING = -11, OUTSIDE = -12, UNLIKE = -13, BELOW = -14;
    static final long NO = Long.MIN_VALUE;
    static final BigInteger LIMIT = BigInteger.valueOf(Long.MAX_VALUE);

    /** A sum or product is none of a long. */
    static final class TooGreat extends Exception {
        private static final long serialVersionUID = 1L;
    }

    static BigInteger big(long v) {
        return BigInteger.valueOf(v);
    }

    static BigInteger fit(BigInteger v) throws TooGreat {
        if (v.abs().compareTo(LIMIT) > 0) throw new TooGreat();
        return v;
    }

    static BigInteger mul(BigInteger a, BigInteger b) throws TooGreat {
        return fit(a.multiply(b));
    }

    static BigInteger add(BigInteger a, BigInteger b) throws TooGreat {
        return fit(a.add(b));
    }

    static final class It implements Cloneable {
        int kind, area, height, slope, ease = 10, given;
        boolean held;

        It copy() {
            It i = new It();
            i.kind = kind; i.area = area; i.height = height; i.slope = slope;
            i.ease = ease; i.given = given; i.held = held;
            return i;
        }
    }

    static int rightOf(int kind, It it, int g) {
        int r;
        if (kind == 0) {
            r = 8 + 2 * it.slope * (g - it.height);
            return r < 1 ? 1 : r > 15 ? 15 : r;
        }
        if (kind == 1) { r = rightOf(0, it, g); return r < 4 ? 4 : r; }
        if (kind == 2) { r = rightOf(0, it, g); return r > 12 ? 12 : r; }
        if (kind == 3) { r = rightOf(1, it, g); return r > 12 ? 12 : r; }
        if (kind == 4) { r = rightOf(2, it, g) / 2; return r < 1 ? 1 : r; }
        return 8;
    }

    static int tellsOf(int kind, It it, int g) {
        int r = rightOf(it.kind, it, g);
        if (kind == 0 || kind == 2) return it.slope * it.slope * r * (16 - r);
        if (kind == 1) { int t = tellsOf(0, it, g) - 40; return t < 0 ? 0 : t; }
        if (kind == 3) return tellsOf(1, it, g) + 10;
        if (kind == 4) return tellsOf(2, it, g) / 2;
        return 0;
    }

    static boolean under(int kind, int k) {
        if (k == 0 || kind == k) return true;
        return kind == 3 && k == 1 || kind == 4 && k == 2;
    }

    static final class Model {
        int[] priors = {1, 1, 1, 1, 1, 1, 1, 1, 1};
        int[] begun = priors.clone();
        int[] least = {0, 0, 0}, most = {8, 8, 8}, bounds = {0, 0, 0, 0, 0};
        int span = 4, caution, ruleBits, testees;
        boolean on;
        List<It> items = new ArrayList<>();
        List<int[]> answers = new ArrayList<>();
        Model image;
        int[][] sheets = new int[4][];
        int[] sorts = {-1, -1, -1, -1};

        Model copy() {
            Model m = new Model();
            m.priors = priors.clone(); m.begun = begun.clone();
            m.least = least.clone(); m.most = most.clone(); m.bounds = bounds.clone();
            m.span = span; m.caution = caution; m.ruleBits = ruleBits; m.testees = testees; m.on = on;
            for (It i : items) m.items.add(i.copy());
            for (int[] a : answers) m.answers.add(a.clone());
            return m;
        }

        void lay(Model m) {
            Model c = m.copy();
            priors = c.priors; begun = c.begun; least = c.least; most = c.most; bounds = c.bounds;
            span = c.span; caution = c.caution; ruleBits = c.ruleBits; testees = c.testees; on = c.on;
            items = c.items; answers = c.answers;
        }

        static boolean in(int v, int a, int b) { return a <= v && v <= b; }
        boolean item(int i) { return i >= 0 && i < items.size(); }

        static BigInteger[] divided(BigInteger[] w) {
            BigInteger d = BigInteger.ZERO;
            for (BigInteger x : w) d = d.gcd(x);
            BigInteger[] v = new BigInteger[9];
            for (int g = 0; g < 9; g++) v[g] = w[g].divide(d);
            return v;
        }

        BigInteger[] behind(BigInteger[] w, int i, int right) throws TooGreat {
            BigInteger[] v = new BigInteger[9];
            for (int g = 0; g < 9; g++) {
                int r = rightOf(items.get(i).kind, items.get(i), g);
                v[g] = mul(w[g], big(right == 1 ? r : 16 - r));
            }
            return divided(v);
        }

        BigInteger[] weights(int howMany) {
            BigInteger[] w = new BigInteger[9];
            for (int g = 0; g < 9; g++) w[g] = big(on ? begun[g] : priors[g]);
            if (!on) return w;
            w = divided(w);
            try {
                for (int k = 0; k < howMany; k++) w = behind(w, answers.get(k)[0], answers.get(k)[1]);
            } catch (TooGreat e) {
                throw new IllegalStateException("an answer made a weight that is no long");
            }
            return w;
        }

        BigInteger[] weights() { return weights(answers.size()); }

        static int mode(BigInteger[] w) {
            int m = 8;
            for (int g = 8; g >= 0; g--) if (w[g].compareTo(w[m]) >= 0) m = g;
            return m;
        }

        static BigInteger all(BigInteger[] w) throws TooGreat {
            BigInteger s = BigInteger.ZERO;
            for (BigInteger x : w) s = add(s, x);
            return s;
        }

        static BigInteger moment(BigInteger[] w, int power) throws TooGreat {
            BigInteger s = BigInteger.ZERO;
            for (int g = 0; g < 9; g++) s = add(s, mul(big(g).pow(power), w[g]));
            return s;
        }

        static BigInteger[] spread(BigInteger[] w) throws TooGreat {
            BigInteger a = all(w), s = moment(w, 1);
            return new BigInteger[] {fit(mul(moment(w, 2), a).subtract(mul(s, s))), mul(a, a)};
        }

        BigInteger informs(BigInteger[] w, int i) throws TooGreat {
            BigInteger s = BigInteger.ZERO;
            for (int g = 0; g < 9; g++) s = add(s, mul(w[g], big(tellsOf(items.get(i).kind, items.get(i), g))));
            return s;
        }

        static long low(BigInteger above, BigInteger below, int part) {
            BigInteger d = above.gcd(below);
            return (part == 0 ? above : below).divide(d).longValueExact();
        }

        int reply(int i) {
            if (on) for (int[] a : answers) if (a[0] == i) return a[1];
            return -1;
        }

        int inArea(int a) {
            int n = 0;
            if (on) for (int[] x : answers) if (items.get(x[0]).area == a) n++;
            return n;
        }

        boolean free(int i) { return reply(i) < 0 && !items.get(i).held; }

        // the public face

        int prior(int level, int v) {
            if (!in(level, 0, 8) || !in(v, 0, 2000000000)) return BAD;
            int was = priors[level];
            priors[level] = v;
            if (Arrays.stream(priors).allMatch(p -> p == 0)) { priors[level] = was; return STATE; }
            return was;
        }

        int quota(int a, int l, int m) {
            if (!in(a, 0, 2) || !in(l, 0, 8) || !in(m, 0, 8) || l > m) return BAD;
            int was = least[a] * 10 + most[a];
            least[a] = l; most[a] = m;
            return was;
        }

        int item(int kind, int area, int height, int slope) {
            if (!in(kind, 0, 5) || !in(area, 0, 2) || !in(height, 0, 8) || !in(slope, 1, 3)) return BAD;
            if (items.size() == 8) return FULL;
            It i = new It();
            i.kind = kind; i.area = area; i.height = height; i.slope = slope; i.held = on;
            items.add(i);
            return items.size() - 1;
        }

        int ease(int i, int v) {
            if (!item(i) || !in(v, 0, 10)) return BAD;
            int was = items.get(i).ease;
            items.get(i).ease = v;
            return was;
        }

        int set(int what, int v) {
            int was;
            if (what == 0) { if (!in(v, 1, 8)) return BAD; was = span; span = v; return was; }
            if (what == 1) { if (!in(v, 0, 9)) return BAD; was = caution; caution = v; return was; }
            if (!in(what, 10, 14) || !in(v, 0, 99)) return BAD;
            was = bounds[what - 10];
            bounds[what - 10] = v;
            return was;
        }

        int rules(int bits) {
            if (!in(bits, 0, 31)) return BAD;
            int was = ruleBits;
            ruleBits = bits;
            return was;
        }

        int told(int i, int what) {
            if (!item(i) || !in(what, 0, 7)) return BAD;
            It it = items.get(i);
            return new int[] {it.kind, it.area, it.height, it.slope, it.ease, it.given, on && it.held ? 1 : 0, reply(i)}[what];
        }

        int by(int i, int level, int what) {
            if (!item(i) || !in(level, 0, 8) || !in(what, 0, 1)) return BAD;
            It it = items.get(i);
            return what == 0 ? rightOf(it.kind, it, level) : tellsOf(it.kind, it, level);
        }

        int taken(int i, int k) {
            if (!item(i) || !in(k, 0, 5)) return BAD;
            return under(items.get(i).kind, k) ? items.get(i).height : UNLIKE;
        }

        int begin(int seed) {
            if (on) return STATE;
            on = true;
            answers.clear();
            testees++;
            begun = priors.clone();
            int z = seed, n = 0;
            for (It i : items) {
                z = z * 1103515245 + 12345;
                i.held = 10 * (i.given + 1) > i.ease * testees || (z >>> 9) % 10 < caution;
                if (i.held) n++;
            }
            return n;
        }

        int answer(int i, int right) {
            if (!item(i) || !in(right, 0, 1)) return BAD;
            if (!on || !free(i) || inArea(items.get(i).area) >= most[items.get(i).area]) return STATE;
            answers.add(new int[] {i, right});
            items.get(i).given++;
            return answers.size();
        }

        int end() {
            if (!on) return STATE;
            on = false;
            int n = answers.size();
            answers.clear();
            return n;
        }

        int answered(int i, int what) {
            if (!in(what, 0, 1)) return BAD;
            if (!on) return STATE;
            return i < 0 || i >= answers.size() ? OUTSIDE : answers.get(i)[what];
        }

        long weight(int level) { return in(level, 0, 8) ? weights()[level].longValueExact() : NO; }

        long now(int what, int part) {
            if (!in(part, 0, 1)) return NO;
            BigInteger[] w = weights();
            try {
                if (what == 0) return low(moment(w, 1), all(w), part);
                if (what == 1) { BigInteger[] s = spread(w); return low(s[0], s[1], part); }
                if (in(what, 10, 17) && item(what - 10)) return low(informs(w, what - 10), all(w), part);
                if (!in(what, 20, 27) || !item(what - 20)) return NO;
                It it = items.get(what - 20);
                BigInteger s = BigInteger.ZERO;
                for (int g = 0; g < 9; g++) s = add(s, mul(w[g], big(rightOf(it.kind, it, g))));
                return low(s, mul(big(16), all(w)), part);
            } catch (TooGreat e) {
                return NO;
            }
        }

        int mode() { return mode(weights()); }

        long would(int i, int right, int part) {
            if (!item(i) || !in(right, 0, 1) || !in(part, 0, 1)) return NO;
            try {
                BigInteger[] w = behind(weights(), i, right);
                return low(moment(w, 1), all(w), part);
            } catch (TooGreat e) {
                return NO;
            }
        }

        /** All whole tests, by growing sets item by item. */
        void grow(int i, int bits, List<Integer> found) {
            if (i == items.size()) {
                int[] n = new int[4];
                for (int k = 0; k < i; k++) if ((bits >> k & 1) == 1) { n[items.get(k).area]++; n[3]++; }
                boolean fits = n[3] == span;
                for (int a = 0; a < 3; a++) fits &= least[a] <= n[a] && n[a] <= most[a];
                if (fits) found.add(bits);
                return;
            }
            if (reply(i) < 0) grow(i + 1, bits, found);
            if (reply(i) >= 0 || free(i)) grow(i + 1, bits | 1 << i, found);
        }

        int shadow() {
            if (!on) return STATE;
            List<Integer> found = new ArrayList<>();
            grow(0, 0, found);
            BigInteger[] w = weights();
            BigInteger most = null;
            int best = NO_WAY;
            try {
                for (int bits : found) {
                    BigInteger s = BigInteger.ZERO;
                    for (int i = 0; i < 8; i++) if ((bits >> i & 1) == 1 && reply(i) < 0) s = add(s, informs(w, i));
                    int c = most == null ? 1 : s.compareTo(most);
                    if (c > 0 || c == 0 && bits < best) { most = s; best = bits; }
                }
            } catch (TooGreat e) {
                return GREAT;
            }
            return best;
        }

        int next() {
            int bits = shadow();
            if (bits < 0) return bits;
            BigInteger[] w = weights();
            int best = -1;
            try {
                for (int i = 7; i >= 0; i--) {
                    if ((bits >> i & 1) == 0 || reply(i) >= 0) continue;
                    if (best < 0 || informs(w, i).compareTo(informs(w, best)) >= 0) best = i;
                }
            } catch (TooGreat e) {
                return GREAT;
            }
            return best;
        }

        int says(int rule) {
            if (!in(rule, 0, 4)) return BAD;
            if (!on) return STATE;
            BigInteger[] w = weights();
            BigInteger b = big(bounds[rule]);
            int n = answers.size();
            try {
                if (rule == 0) return n >= bounds[0] ? 1 : 0;
                if (rule == 1) return mul(w[mode(w)], big(100)).compareTo(mul(all(w), b)) >= 0 ? 1 : 0;
                if (rule == 2) { BigInteger[] s = spread(w); return mul(s[0], big(10)).compareTo(mul(s[1], b)) <= 0 ? 1 : 0; }
                if (rule == 3) {
                    BigInteger bar = mul(all(w), b);
                    for (int i = 0; i < items.size(); i++) if (free(i) && informs(w, i).compareTo(bar) >= 0) return 0;
                    return 1;
                }
                for (int k = 0; k <= bounds[4]; k++) {
                    if (n - k < 0 || mode(weights(n - k)) != mode(w)) return 0;
                }
                return 1;
            } catch (TooGreat e) {
                return GREAT;
            }
        }

        int stops() {
            if (!on) return STATE;
            for (int a = 0; a < 3; a++) if (inArea(a) < least[a]) return 0;
            if (answers.size() >= span) return 1;
            for (int r = 0; r < 5; r++) {
                if ((ruleBits & 1 << r) == 0) continue;
                int s = says(r);
                if (s == 1 || s == GREAT) return s;
            }
            return 0;
        }

        int[] draw(int seed, int level) {
            Model m = copy();
            int z = seed, n = 0;
            while (m.stops() == 0) {
                int i = m.next();
                if (i < 0) break;
                z = z * 1103515245 + 12345;
                It it = items.get(i);
                int got = m.answer(i, (z >>> 9) % 16 < rightOf(it.kind, it, level) ? 1 : 0);
                if (got < 0) throw new IllegalStateException("what is next may not be asked");
                n++;
            }
            return new int[] {n, m.mode()};
        }

        int drawn(int seed, int level, int what) {
            if (!in(level, 0, 8) || !in(what, 0, 1)) return BAD;
            return on ? draw(seed, level)[what] : STATE;
        }

        int chance(int seed, int level, int m, int part) {
            if (!in(level, 0, 8) || !in(m, 1, 10) || !in(part, 0, 1)) return BAD;
            if (!on) return STATE;
            int n = 0;
            for (int k = 0; k < m; k++) {
                int d = draw(seed + k, level)[1];
                if (d == level || d == level - 1 || d == level + 1) n++;
            }
            return (int) low(big(n), big(m), part);
        }

        int best(int[] row, int item, int kind) {
            BigInteger most = big(-1);
            int best = -1;
            for (int g = 0; g < 9; g++) {
                BigInteger p = BigInteger.ONE;
                for (int i = 0; i < row.length; i++) {
                    It it = items.get(i);
                    int r = rightOf(i == item ? kind : it.kind, it, g);
                    p = p.multiply(big(row[i] == 1 ? r : 16 - r));
                }
                if (p.compareTo(most) > 0) { most = p; best = g; }
            }
            return best;
        }

        int tells(int sheet, int what, int level) {
            if (!in(sheet, 0, 3)) return BAD;
            if (!(what == 0 || what == 1 || in(what, 10, 17) && item(what - 10))) return BAD;
            if (what >= 10 && !in(level, 0, 8)) return BAD;
            int[] row = sheets[sheet];
            if (row == null) return MISSING;
            if (row.length > items.size()) return BAD;
            for (int v : row) if (v != 0 && v != 1) return BAD;
            if (what == 0) return best(row, -1, 0);
            int bits = 0;
            if (what >= 10) {
                for (int k = 0; k < 6; k++) if (best(row, what - 10, k) == level) bits += 1 << k;
                return bits;
            }
            for (int i = 0; i < row.length; i++) {
                int[] other = row.clone();
                other[i] = 1 - other[i];
                if (best(other, -1, 0) != best(row, -1, 0)) bits += 1 << i;
            }
            return bits;
        }

        int film(int sheet, int i) {
            if (!in(sheet, 0, 3) || !item(i)) return BAD;
            int[] row = new int[9];
            for (int g = 0; g < 9; g++) row[g] = tellsOf(items.get(i).kind, items.get(i), g);
            sheets[sheet] = row;
            sorts[sheet] = 1;
            return Arrays.stream(row).sum();
        }

        int image() { image = copy(); return items.size(); }

        int back() {
            if (image == null) return STATE;
            lay(image);
            return items.size();
        }

        int count(int what) {
            if (what == 0) return items.size();
            if (what == 1) return testees;
            if (what == 2) return answers.size();
            if (in(what, 3, 5)) return inArea(what - 3);
            if (what == 6) return on ? 1 : 0;
            if (what == 7) return ruleBits;
            if (what == 8) return span;
            if (what == 9) return caution;
            if (in(what, 10, 12)) return least[what - 10];
            if (in(what, 20, 22)) return most[what - 20];
            return in(what, 30, 34) ? bounds[what - 30] : BAD;
        }

        int sheet(int sheet, int sort, int n) {
            if (!in(sheet, 0, 3) || !in(sort, -1, 1)) return BAD;
            if (sort >= 0 && n > 40) return BAD;
            if (sort >= 0 && n < 0) return BELOW;
            sorts[sheet] = sort;
            sheets[sheet] = sort < 0 ? null : new int[n];
            return 1;
        }

        int put(int sheet, int i, int v) {
            if (!in(sheet, 0, 3)) return BAD;
            if (sheets[sheet] == null) return MISSING;
            if (!in(i, 0, sheets[sheet].length - 1)) return OUTSIDE;
            sheets[sheet][i] = sorts[sheet] == 0 ? v & 255 : v;
            return 1;
        }

        int copy(int sheet, int i, int other, int j, int n) {
            if (!in(sheet, 0, 3) || !in(other, 0, 3)) return BAD;
            if (sheets[sheet] == null || sheets[other] == null) return MISSING;
            if (sorts[sheet] != sorts[other]) return UNLIKE;
            if (i < 0 || j < 0 || n < 0) return OUTSIDE;
            if ((long) i + n > sheets[sheet].length || (long) j + n > sheets[other].length) return OUTSIDE;
            int[] were = sheets[sheet].clone();
            for (int k = 0; k < n; k++) sheets[other][j + k] = were[i + k];
            return n;
        }

        int load(int sheet, int sort, int from, int n) {
            if (!in(sheet, 0, 3) || !in(sort, 0, 1) || !in(n, 0, 8)) return BAD;
            if (sheets[sheet] == null) return MISSING;
            if (sorts[sheet] != sort) return UNLIKE;
            int came = 0;
            for (int k = 0; k < n; k++) {
                int[] v = new int[4];
                for (int q = 0; q < 4; q++) {
                    long at = (long) from + 4 * k + q;
                    if (at < 0 || at >= sheets[sheet].length) return OUTSIDE;
                    v[q] = sheets[sheet][(int) at];
                }
                if (item(v[0], v[1], v[2], v[3]) >= 0) came++;
            }
            return came;
        }
    }

    // ---- runs

    static int wrong = 0;
    static long checked = 0;
    /** How often each call answered a refusal that is rare: the runs are of no use where one is missing. */
    static final java.util.TreeMap<String, Integer> rare = new java.util.TreeMap<>();

    final Random random;
    final ShadowTester x = new ShadowTester();
    final Model m = new Model();
    final StringBuilder trail = new StringBuilder();
    final long seed;
    int calls = 0;
    boolean failed = false;

    ModelTest(long seed) {
        this.seed = seed;
        random = new Random(seed);
    }

    void due(String call, long got, long want) {
        checked++;
        calls++;
        String name = call.indexOf('(') < 0 ? call : call.substring(0, call.indexOf('('));
        if (want == GREAT || want == NO_WAY || want == NO) rare.merge(name + " " + want, 1, Integer::sum);
        trail.append(call).append(" = ").append(got).append('\n');
        if (got == want || failed) return;
        failed = true;
        wrong++;
        if (wrong <= 3) System.out.println("seed " + seed + ", due " + want + " behind:\n" + trail);
    }

    int pick(int a, int b) { return a + random.nextInt(b - a + 1); }

    /** Mostly a..b, at times a bit outside or far out. */
    int near(int a, int b) {
        int r = random.nextInt(60);
        if (r == 0) return a - 1;
        if (r == 1) return b + 1;
        if (r == 2) return random.nextInt();
        if (r == 3) return random.nextBoolean() ? Integer.MIN_VALUE : Integer.MAX_VALUE;
        return pick(a, b);
    }

    int item() { return near(0, Math.max(0, m.items.size() - 1)); }

    void prior() {
        int l = near(0, 8);
        int[] some = {0, 0, 1, 2, 3, 6, 12, 100, 2000000000, 1999999999, 2000000001, -1, pick(0, 50), pick(0, 2000000000)};
        int v = some[random.nextInt(some.length)];
        due("prior(" + l + "," + v + ")", x.prior(l, v), m.prior(l, v));
    }

    void addItem() {
        int k = near(0, 5), a = near(0, 2), h = near(0, 8), s = near(1, 3);
        due("item(" + k + "," + a + "," + h + "," + s + ")", x.item(k, a, h, s), m.item(k, a, h, s));
    }

    void quota() {
        int a = near(0, 2), l = random.nextInt(3) > 0 ? pick(0, 1) : near(0, 8), t = random.nextInt(3) > 0 ? pick(2, 8) : near(0, 8);
        due("quota(" + a + "," + l + "," + t + ")", x.quota(a, l, t), m.quota(a, l, t));
    }

    void setting() {
        int[] some = {0, 1, 10, 11, 12, 13, 14, near(0, 14)};
        int what = some[random.nextInt(some.length)];
        int v = what == 0 ? near(1, 8) : what == 1 ? near(0, random.nextInt(3) == 0 ? 9 : 2)
            : what == 10 || what == 14 ? near(0, 5) : near(0, 99);
        due("set(" + what + "," + v + ")", x.set(what, v), m.set(what, v));
    }

    void answer() {
        int i = item();
        int bits = random.nextBoolean() ? m.next() : -1;
        if (bits >= 0) i = bits;
        int r = near(0, 1);
        due("answer(" + i + "," + r + ")", x.answer(i, r), m.answer(i, r));
    }

    void sheets() {
        int s = near(0, 3), o = near(0, 3);
        switch (random.nextInt(8)) {
            case 0: {
                int sort = near(-1, 1), n = random.nextBoolean() ? near(0, 40) : pick(0, 9);
                due("sheet(" + s + "," + sort + "," + n + ")", x.sheet(s, sort, n), m.sheet(s, sort, n));
                break;
            }
            case 1: case 2: case 3: {
                int i = near(0, 9), v = random.nextInt(4) == 0 ? pick(0, 3) + 256 * pick(-1, 2) : pick(0, 2);
                due("put(" + s + "," + i + "," + v + ")", x.put(s, i, v), m.put(s, i, v));
                break;
            }
            case 4: {
                int i = near(0, 9), j = near(0, 9), n = near(0, 8);
                due("copy(" + s + "," + i + "," + o + "," + j + "," + n + ")", x.copy(s, i, o, j, n), m.copy(s, i, o, j, n));
                break;
            }
            case 5: {
                int sort = near(0, 1), from = near(0, 6), n = near(0, random.nextInt(4) == 0 ? 8 : 2);
                due("load(" + s + "," + sort + "," + from + "," + n + ")", x.load(s, sort, from, n), m.load(s, sort, from, n));
                break;
            }
            default: {
                int i = item();
                due("film(" + s + "," + i + ")", x.film(s, i), m.film(s, i));
            }
        }
    }

    /** Sheets that tell answers, and what they tell. */
    void telling() {
        int s = pick(0, 3), n = pick(0, Math.min(8, m.items.size()));
        due("sheet", x.sheet(s, n & 1, n), m.sheet(s, n & 1, n));
        for (int i = 0; i < n; i++) {
            int v = random.nextInt(40) == 0 ? 2 : pick(0, 1);
            due("put(" + s + "," + i + "," + v + ")", x.put(s, i, v), m.put(s, i, v));
        }
        int g = near(0, 8);
        for (int what : new int[] {0, 1, 2, near(10, 17), near(10, 17)}) {
            due("tells(" + s + "," + what + "," + g + ")", x.tells(s, what, g), m.tells(s, what, g));
        }
    }

    void look() {
        int i = item(), g = near(0, 8), p = near(0, 1), seed = random.nextInt();
        switch (random.nextInt(16)) {
            case 0: { int w = near(0, 7); due("told(" + i + "," + w + ")", x.told(i, w), m.told(i, w)); break; }
            case 1: due("by(" + i + "," + g + "," + p + ")", x.by(i, g, p), m.by(i, g, p)); break;
            case 2: { int k = near(0, 5); due("taken(" + i + "," + k + ")", x.taken(i, k), m.taken(i, k)); break; }
            case 3: due("answered(" + i + "," + p + ")", x.answered(i, p), m.answered(i, p)); break;
            case 4: due("weight(" + g + ")", x.weight(g), m.weight(g)); break;
            case 5: case 6: {
                int[] some = {0, 1, near(10, 17), near(20, 27), near(0, 28)};
                int what = some[random.nextInt(some.length)];
                due("now(" + what + "," + p + ")", x.now(what, p), m.now(what, p));
                break;
            }
            case 7: due("mode()", x.mode(), m.mode()); break;
            case 8: { int r = near(0, 1); due("would(" + i + "," + r + "," + p + ")", x.would(i, r, p), m.would(i, r, p)); break; }
            case 9: due("shadow()", x.shadow(), m.shadow()); break;
            case 10: due("next()", x.next(), m.next()); break;
            case 11: due("stops()", x.stops(), m.stops()); break;
            case 12: { int r = near(0, 4); due("says(" + r + ")", x.says(r), m.says(r)); break; }
            case 13: due("drawn(" + seed + "," + g + "," + p + ")", x.drawn(seed, g, p), m.drawn(seed, g, p)); break;
            case 14: {
                int n = near(1, 10);
                if (random.nextInt(4) == 0) seed = Integer.MAX_VALUE - pick(0, 3);
                due("chance(" + seed + "," + g + "," + n + "," + p + ")", x.chance(seed, g, n, p), m.chance(seed, g, n, p));
                break;
            }
            default: { int w = near(0, 34); due("count(" + w + ")", x.count(w), m.count(w)); }
        }
    }

    void lookAtAll() {
        for (int g = 0; g < 9; g++) due("weight(" + g + ")", x.weight(g), m.weight(g));
        for (int w : new int[] {0, 1, 10, 11, 17, 20, 23}) due("now(" + w + ",0)", x.now(w, 0), m.now(w, 0));
        for (int r = 0; r < 5; r++) due("says(" + r + ")", x.says(r), m.says(r));
        for (int i = 0; i < m.items.size(); i++) for (int w = 0; w < 8; w++) due("told(" + i + "," + w + ")", x.told(i, w), m.told(i, w));
        for (int w = 0; w < 35; w++) due("count(" + w + ")", x.count(w), m.count(w));
        due("shadow()", x.shadow(), m.shadow());
        due("next()", x.next(), m.next());
        due("stops()", x.stops(), m.stops());
    }

    void change() {
        int r = random.nextInt(24);
        if (r < 8) answer();
        else if (r < 10) { int s = random.nextInt(); due("begin(" + s + ")", x.begin(s), m.begin(s)); }
        else if (r < 11) { if (random.nextInt(3) == 0) due("end()", x.end(), m.end()); }
        else if (r < 13) prior();
        else if (r < 15) addItem();
        else if (r < 16) quota();
        else if (r < 18) setting();
        else if (r < 19) { int b = near(0, 31); due("rules(" + b + ")", x.rules(b), m.rules(b)); }
        else if (r < 20) { int i = item(), v = random.nextInt(2) == 0 ? 10 : near(0, 10); due("ease(" + i + "," + v + ")", x.ease(i, v), m.ease(i, v)); }
        else if (r < 22) sheets();
        else if (r < 23) { if (random.nextInt(3) == 0) due("image()", x.image(), m.image()); }
        else if (random.nextInt(3) == 0) due("back()", x.back(), m.back());
    }

    /** A test whose weights become so long that sums are none: great priors, steep items, likely answers. */
    void beginGreat() {
        for (int g = 0; g < 9; g++) {
            int v = random.nextInt(3) > 0 ? 2000000000 - pick(0, 100) : pick(0, 40);
            due("prior(" + g + "," + v + ")", x.prior(g, v), m.prior(g, v));
        }
        int side = random.nextInt(3);
        for (int i = 0; i < 8; i++) {
            int k = pick(0, 2), a = pick(0, 2), h = side == 0 ? pick(0, 2) : side == 1 ? pick(6, 8) : pick(2, 6), s = random.nextInt(4) == 0 ? 2 : 3;
            due("item(" + k + "," + a + "," + h + "," + s + ")", x.item(k, a, h, s), m.item(k, a, h, s));
        }
        int span = pick(6, 8), bits = pick(0, 31), seed = random.nextInt();
        due("set(0," + span + ")", x.set(0, span), m.set(0, span));
        due("rules(" + bits + ")", x.rules(bits), m.rules(bits));
        for (int r = 0; r < 5; r++) {
            int b = pick(20, 99);
            due("set(" + (10 + r) + "," + b + ")", x.set(10 + r, b), m.set(10 + r, b));
        }
        due("begin(" + seed + ")", x.begin(seed), m.begin(seed));
        int answers = pick(5, 8), from = pick(0, 7), step = 2 * pick(0, 3) + 1;
        for (int k = 0; k < answers; k++) {
            int i = (from + k * step) % 8, r = side == 0 ? 1 : side == 1 ? 0 : pick(0, 1);
            due("answer(" + i + "," + r + ")", x.answer(i, r), m.answer(i, r));
            for (int q = 0; q < (k > 4 ? 20 : 2); q++) look();
        }
    }

    void run() {
        int items = pick(0, 8);
        for (int i = 0; i < items; i++) addItem();
        int priors = random.nextInt(3) == 0 ? pick(0, 12) : 0;
        for (int i = 0; i < priors; i++) prior();
        if (random.nextInt(4) == 0) beginGreat();
        while (calls < 370) {
            int r = random.nextInt(30);
            if (r < 13) change();
            else if (r < 28) look();
            else telling();
        }
        lookAtAll();
    }

    public static void main(String[] args) {
        int runs = args.length > 0 ? Integer.parseInt(args[0]) : 3000;
        for (int k = 0; k < runs; k++) new ModelTest(k).run();
        System.out.println(runs + " random runs, " + checked + " answers, " + wrong + " runs wrong; rare ones: " + rare);
        if (wrong > 0) System.exit(1);
    }
}
