/**
 * An adaptive tester. ITEMS ask for an ability that is one of nine LEVELS; exact WEIGHTS of the LEVELS go by
 * what was answered; the next ITEM comes from a SHADOW, the whole test that would inform most and keeps to
 * the quotas of the AREAS. ../shared/DOC.md says all that it promises; the words in capitals are its terms.
 */
public final class ShadowTester {
    public static final int NONE = -1, BAD = -2, STATE = -3, FULL = -4, GREAT = -7, NO_WAY = -8;
    public static final long NO = Long.MIN_VALUE;

    private static final int MISSING = -11, OUTSIDE = -12, UNLIKE = -13, BELOW_NONE = -14;

    private static final int LEVELS = 9, AREAS = 3, ITEMS = 8, RULES = 5, SHEETS = 4;
    private static final int KINDS = 6, PLAIN = 0, GUESS = 1, SLIP = 2, BOTH = 3, HARD = 4, FLAT = 5;
    private static final int COUNT = 0, SURE = 1, NARROW = 2, POOR = 3;
    private static final int MOST_PRIOR = 2000000000, MOST_EASE = 10, MOST_CAUTION = 9, MOST_BOUND = 99;
    private static final int MOST_QUOTA = 8, MOST_SLOPE = 3, MOST_SEEDS = 10;
    private static final int LONGEST_SHEET = 40, NUMBERS_AN_ITEM = 4, BYTES = 0, INTS = 1;

    private final Course course = new Course();
    private final Course image = new Course();
    /** What would be is played here, so that the course itself stays as it is. */
    private final Course thought = new Course();
    private boolean imageKept = false;
    private final Sheet[] sheets = new Sheet[SHEETS];

    public ShadowTester() {
        for (int i = 0; i < SHEETS; i++) sheets[i] = new Sheet();
    }

    // ---- levels, areas, items

    public int prior(int level, int v) {
        if (!isLevel(level) || !within(v, 0, MOST_PRIOR)) return BAD;
        if (v == 0 && course.othersAreZero(level)) return STATE;
        return course.changePrior(level, v);
    }

    public int quota(int area, int least, int most) {
        if (!isArea(area) || !within(least, 0, MOST_QUOTA) || !within(most, 0, MOST_QUOTA)) return BAD;
        if (least > most) return BAD;
        int was = 10 * course.least[area] + course.most[area];
        course.least[area] = least;
        course.most[area] = most;
        return was;
    }

    public int item(int kind, int area, int height, int slope) {
        return course.addItem(kind, area, height, slope);
    }

    public int ease(int item, int v) {
        if (!course.isItem(item) || !within(v, 0, MOST_EASE)) return BAD;
        int was = course.items[item].ease;
        course.items[item].ease = v;
        return was;
    }

    public int set(int what, int v) {
        int was = BAD;
        if (what == 0 && within(v, 1, ITEMS)) {
            was = course.span;
            course.span = v;
        } else if (what == 1 && within(v, 0, MOST_CAUTION)) {
            was = course.caution;
            course.caution = v;
        } else if (within(what, 10, 9 + RULES) && within(v, 0, MOST_BOUND)) {
            was = course.bounds[what - 10];
            course.bounds[what - 10] = v;
        }
        return was;
    }

    public int rules(int bits) {
        if (!within(bits, 0, (1 << RULES) - 1)) return BAD;
        int was = course.ruleBits;
        course.ruleBits = bits;
        return was;
    }

    public int told(int item, int what) {
        if (!course.isItem(item)) return BAD;
        Item it = course.items[item];
        switch (what) {
            case 0: return it.kind;
            case 1: return it.area;
            case 2: return it.height;
            case 3: return it.slope;
            case 4: return it.ease;
            case 5: return it.given;
            case 6: return it.held ? 1 : 0;
            case 7: return it.reply;
            default: return BAD;
        }
    }

    public int by(int item, int level, int what) {
        if (!course.isItem(item) || !isLevel(level) || !within(what, 0, 1)) return BAD;
        Item it = course.items[item];
        return what == 0 ? it.right[level] : it.tells[level];
    }

    public int taken(int item, int k) {
        if (!course.isItem(item) || !isKind(k)) return BAD;
        Item it = course.items[item];
        return it.isOf(k) ? it.height : UNLIKE;
    }

    // ---- tests

    public int begin(int seed) {
        return course.on ? STATE : course.start(seed);
    }

    public int answer(int item, int right) {
        if (!course.isItem(item) || !within(right, 0, 1)) return BAD;
        if (!course.on || !course.mayBeAsked(item)) return STATE;
        course.ask(item, right);
        return course.answers;
    }

    public int end() {
        return course.on ? course.finish() : STATE;
    }

    public int answered(int i, int what) {
        if (!within(what, 0, 1)) return BAD;
        if (!course.on) return STATE;
        if (!within(i, 0, course.answers - 1)) return OUTSIDE;
        int item = course.asked[i];
        return what == 0 ? item : course.items[item].reply;
    }

    // ---- what is known

    public long weight(int level) {
        return isLevel(level) ? course.weights.of[level] : NO;
    }

    public long now(int what, int part) {
        if (!within(part, 0, 1)) return NO;
        Weights weights = course.weights;
        if (what == 0) return weights.mean(part);
        if (what == 1) return Exact.inLowestTerms(weights.spreadAbove(), weights.spreadBelow(), part);
        if (within(what, 10, 9 + course.itemCount)) {
            return Exact.inLowestTerms(weights.informs(course.items[what - 10]), weights.all, part);
        }
        if (within(what, 20, 19 + course.itemCount)) {
            Item item = course.items[what - 20];
            return Exact.inLowestTerms(weights.rights(item), Exact.times(16, weights.all), part);
        }
        return NO;
    }

    public int mode() {
        return course.weights.heaviest();
    }

    public long would(int item, int right, int part) {
        if (!course.isItem(item) || !within(right, 0, 1) || !within(part, 0, 1)) return NO;
        Weights weights = thought.weights;
        weights.copyFrom(course.weights);
        return weights.go(course.items[item], right) ? weights.mean(part) : NO;
    }

    // ---- what to ask

    public int shadow() {
        return course.on ? course.bestTest() : STATE;
    }

    public int next() {
        return course.on ? course.bestItem() : STATE;
    }

    public int stops() {
        return course.on ? course.isOver() : STATE;
    }

    public int says(int rule) {
        if (!within(rule, 0, RULES - 1)) return BAD;
        return course.on ? course.ruleSays(rule) : STATE;
    }

    // ---- by seeds

    public int drawn(int seed, int level, int what) {
        if (!isLevel(level) || !within(what, 0, 1)) return BAD;
        if (!course.on) return STATE;
        int howMany = thought.goOnFrom(course, seed, level);
        return what == 0 ? howMany : thought.weights.heaviest();
    }

    public int chance(int seed, int level, int m, int part) {
        if (!isLevel(level) || !within(m, 1, MOST_SEEDS) || !within(part, 0, 1)) return BAD;
        if (!course.on) return STATE;
        int near = 0;
        for (int k = 0; k < m; k++) {
            thought.goOnFrom(course, seed + k, level);
            if (Math.abs(thought.weights.heaviest() - level) <= 1) near++;
        }
        return (int) Exact.inLowestTerms(near, m, part);
    }

    // ---- what was told

    public int tells(int sheet, int what, int level) {
        boolean ofKinds = within(what, 10, 9 + course.itemCount);
        if (!isSheet(sheet) || !(within(what, 0, 1) || ofKinds)) return BAD;
        if (ofKinds && !isLevel(level)) return BAD;
        Sheet told = sheets[sheet];
        if (told.isMissing()) return MISSING;
        if (!course.understands(told)) return BAD;
        if (ofKinds) return course.kindsFor(told, what - 10, level);
        return what == 0 ? course.bestLevel(told, NONE, NONE, NONE) : course.decidingItems(told);
    }

    public int film(int sheet, int item) {
        if (!isSheet(sheet) || !course.isItem(item)) return BAD;
        Sheet row = sheets[sheet];
        Item it = course.items[item];
        row.become(INTS, LEVELS);
        int together = 0;
        for (int g = 0; g < LEVELS; g++) {
            row.write(g, it.tells[g]);
            together += it.tells[g];
        }
        return together;
    }

    public int image() {
        image.copyFrom(course);
        imageKept = true;
        return image.itemCount;
    }

    public int back() {
        if (!imageKept) return STATE;
        course.copyFrom(image);
        return course.itemCount;
    }

    public int count(int what) {
        if (within(what, 3, 2 + AREAS)) return course.askedOf(what - 3);
        if (within(what, 10, 9 + AREAS)) return course.least[what - 10];
        if (within(what, 20, 19 + AREAS)) return course.most[what - 20];
        if (within(what, 30, 29 + RULES)) return course.bounds[what - 30];
        switch (what) {
            case 0: return course.itemCount;
            case 1: return course.testees;
            case 2: return course.answers;
            case 6: return course.on ? 1 : 0;
            case 7: return course.ruleBits;
            case 8: return course.span;
            case 9: return course.caution;
            default: return BAD;
        }
    }

    // ---- the host

    public int sheet(int sheet, int sort, int n) {
        if (!isSheet(sheet)) return BAD;
        if (sort == NONE) {
            sheets[sheet].become(NONE, 0);
            return 1;
        }
        if (!isSort(sort) || n > LONGEST_SHEET) return BAD;
        if (n < 0) return BELOW_NONE;
        sheets[sheet].become(sort, n);
        return 1;
    }

    public int put(int sheet, int i, int v) {
        if (!isSheet(sheet)) return BAD;
        Sheet row = sheets[sheet];
        if (row.isMissing()) return MISSING;
        if (!row.has(i, 1)) return OUTSIDE;
        row.write(i, v);
        return 1;
    }

    public int copy(int sheet, int i, int other, int j, int n) {
        if (!isSheet(sheet) || !isSheet(other)) return BAD;
        Sheet from = sheets[sheet];
        Sheet to = sheets[other];
        if (from.isMissing() || to.isMissing()) return MISSING;
        if (from.sort != to.sort) return UNLIKE;
        if (!from.has(i, n) || !to.has(j, n)) return OUTSIDE;
        System.arraycopy(from.of, i, to.of, j, n);
        return n;
    }

    public int load(int sheet, int sort, int from, int n) {
        if (!isSheet(sheet) || !isSort(sort) || !within(n, 0, ITEMS)) return BAD;
        Sheet row = sheets[sheet];
        if (!row.isMissing() && row.sort != sort) return UNLIKE;
        if (row.isMissing()) return MISSING;
        int came = 0;
        int i = from;
        for (int k = 0; k < n; k++) {
            if (!row.has(i, NUMBERS_AN_ITEM)) return OUTSIDE;
            if (course.addItem(row.of[i], row.of[i + 1], row.of[i + 2], row.of[i + 3]) >= 0) came++;
            i += NUMBERS_AN_ITEM;
        }
        return came;
    }

    // ---- what is one such

    private static boolean within(int v, int least, int most) {
        return v >= least && v <= most;
    }

    private static boolean isLevel(int level) {
        return within(level, 0, LEVELS - 1);
    }

    private static boolean isArea(int area) {
        return within(area, 0, AREAS - 1);
    }

    private static boolean isKind(int kind) {
        return within(kind, 0, KINDS - 1);
    }

    private static boolean isSheet(int sheet) {
        return within(sheet, 0, SHEETS - 1);
    }

    private static boolean isSort(int sort) {
        return sort == BYTES || sort == INTS;
    }

    /** The z that comes behind a z: the lots of a test and the answers that are drawn go by it. */
    private static int stir(int z) {
        return z * 1103515245 + 12345;
    }

    /** Exact sums and products of longs that aren't below 0; one that is no long is LOST, and so what it is put in. */
    private static final class Exact {
        static final long LOST = -1L;
        private static final long GREATEST = 9223372036854775807L;
        /** Far above what two longs can need. */
        private static final int MOST_STEPS = 1000;

        static long plus(long a, long b) {
            if (a < 0 || b < 0 || a > GREATEST - b) return LOST;
            return a + b;
        }

        static long times(long a, long b) {
            if (a < 0 || b < 0) return LOST;
            if (a != 0 && b > GREATEST / a) return LOST;
            return a * b;
        }

        static long commonDivisor(long a, long b) {
            long high = a;
            long low = b;
            for (int step = 0; step < MOST_STEPS && low > 0; step++) {
                long rest = high % low;
                high = low;
                low = rest;
            }
            return high;
        }

        /** Part 0 is above the line, part 1 below it. */
        static long inLowestTerms(long above, long below, int part) {
            if (above < 0 || below <= 0) return NO;
            long divisor = commonDivisor(above, below);
            if (divisor <= 0) return NO;
            return (part == 0 ? above : below) / divisor;
        }
    }

    private static final class Item {
        /** The KIND that each is under. */
        private static final int[] ABOVE = {-1, 0, 0, 1, 2, 0};

        int kind = PLAIN, area = 0, height = 0, slope = 1;
        int ease = MOST_EASE, given = 0;
        boolean held = false;
        /** How it was answered in this TEST, or NONE. */
        int reply = NONE;
        /** RIGHT and TELLS by LEVELS. */
        final int[] right = new int[LEVELS];
        final int[] tells = new int[LEVELS];

        void become(int newKind, int newArea, int newHeight, int newSlope) {
            kind = newKind;
            area = newArea;
            height = newHeight;
            slope = newSlope;
            ease = MOST_EASE;
            given = 0;
            held = false;
            reply = NONE;
            for (int g = 0; g < LEVELS; g++) {
                right[g] = rightAs(kind, g);
                tells[g] = tellsOf(right[g]);
            }
        }

        void copyFrom(Item other) {
            kind = other.kind;
            area = other.area;
            height = other.height;
            slope = other.slope;
            ease = other.ease;
            given = other.given;
            held = other.held;
            reply = other.reply;
            System.arraycopy(other.right, 0, right, 0, LEVELS);
            System.arraycopy(other.tells, 0, tells, 0, LEVELS);
        }

        boolean isFree() {
            return !held && reply == NONE;
        }

        /** Of this KIND or one under it. */
        boolean isOf(int wanted) {
            int k = kind;
            for (int step = 0; step < KINDS && isKind(k); step++) {
                if (k == wanted) return true;
                k = ABOVE[k];
            }
            return false;
        }

        /** RIGHT by a LEVEL, were it of that KIND. */
        int rightAs(int asKind, int level) {
            int plain = Math.min(15, Math.max(1, 8 + 2 * slope * (level - height)));
            switch (asKind) {
                case GUESS: return Math.max(4, plain);
                case SLIP: return Math.min(12, plain);
                case BOTH: return Math.min(12, Math.max(4, plain));
                case HARD: return Math.max(1, Math.min(12, plain) / 2);
                case FLAT: return 8;
                default: return plain;
            }
        }

        /** TELLS by the LEVEL whose RIGHT this is. */
        private int tellsOf(int likely) {
            int plain = slope * slope * likely * (16 - likely);
            switch (kind) {
                case GUESS: return Math.max(0, plain - 40);
                case BOTH: return Math.max(0, plain - 40) + 10;
                case HARD: return plain / 2;
                case FLAT: return 0;
                default: return plain;
            }
        }
    }

    /** A WEIGHT of each LEVEL, and what these tell; sums that are no longs are LOST. */
    private static final class Weights {
        final long[] of = new long[LEVELS];
        /** ALL, and the sums of the WEIGHTS times g, and times g times g. */
        long all = 0, byLevels = 0, bySquares = 0;

        Weights() {
            for (int g = 0; g < LEVELS; g++) {
                of[g] = 1;
                all++;
                byLevels += g;
                bySquares += g * g;
            }
        }

        void copyFrom(Weights other) {
            System.arraycopy(other.of, 0, of, 0, LEVELS);
            all = other.all;
            byLevels = other.byLevels;
            bySquares = other.bySquares;
        }

        void become(int[] priors) {
            for (int g = 0; g < LEVELS && g < priors.length; g++) of[g] = priors[g];
            sumUp();
        }

        /** Divides all by their greatest common divisor. */
        void lower() {
            long divisor = 0;
            for (int g = 0; g < LEVELS; g++) divisor = Exact.commonDivisor(of[g], divisor);
            for (int g = 0; g < LEVELS && divisor > 1; g++) of[g] /= divisor;
            sumUp();
        }

        private void sumUp() {
            all = 0;
            byLevels = 0;
            bySquares = 0;
            for (int g = 0; g < LEVELS; g++) {
                all = Exact.plus(all, of[g]);
                byLevels = Exact.plus(byLevels, Exact.times(g, of[g]));
                bySquares = Exact.plus(bySquares, Exact.times(g * g, of[g]));
            }
        }

        /** Goes by an answer; false, and no weights to be used, if a product is no long. */
        boolean go(Item item, int reply) {
            for (int g = 0; g < LEVELS; g++) {
                of[g] = Exact.times(of[g], reply == 1 ? item.right[g] : 16 - item.right[g]);
                if (of[g] < 0) return false;
            }
            lower();
            return true;
        }

        long mean(int part) {
            return Exact.inLowestTerms(byLevels, all, part);
        }

        long spreadAbove() {
            long squares = Exact.times(bySquares, all);
            long less = Exact.times(byLevels, byLevels);
            return squares < 0 || less < 0 ? Exact.LOST : squares - less;
        }

        long spreadBelow() {
            return Exact.times(all, all);
        }

        /** What is above ALL in INFORMS. */
        long informs(Item item) {
            long sum = 0;
            for (int g = 0; g < LEVELS; g++) sum = Exact.plus(sum, Exact.times(of[g], item.tells[g]));
            return sum;
        }

        /** What is above 16 times ALL in LIKELY. */
        long rights(Item item) {
            long sum = 0;
            for (int g = 0; g < LEVELS; g++) sum = Exact.plus(sum, Exact.times(of[g], item.right[g]));
            return sum;
        }

        /** MODE. */
        int heaviest() {
            int mode = 0;
            for (int g = 1; g < LEVELS; g++) if (of[g] > of[mode]) mode = g;
            return mode;
        }
    }

    /** All that an IMAGE keeps. */
    private static final class Course {
        final int[] priors = new int[LEVELS];
        final int[] least = new int[AREAS];
        final int[] most = new int[AREAS];
        final int[] bounds = new int[RULES];
        int ruleBits = 0, span = 4, caution = 0, testees = 0;

        final Item[] items = new Item[ITEMS];
        int itemCount = 0;
        /** The ITEMS of each AREA, as bits. */
        final int[] ofAreas = new int[AREAS];

        boolean on = false;
        final Weights weights = new Weights();
        /** The ITEMS of the ANSWERS, in order. */
        final int[] asked = new int[ITEMS];
        int answers = 0;
        /** The MODE behind so many ANSWERS. */
        final int[] modes = new int[ITEMS + 1];

        /** What the ITEMS inform, as bestTest found it; it is made anew there and kept for no other call. */
        private final long[] informs = new long[ITEMS];

        Course() {
            for (int g = 0; g < LEVELS; g++) priors[g] = 1;
            for (int a = 0; a < AREAS; a++) most[a] = MOST_QUOTA;
            for (int i = 0; i < ITEMS; i++) items[i] = new Item();
        }

        void copyFrom(Course other) {
            System.arraycopy(other.priors, 0, priors, 0, LEVELS);
            System.arraycopy(other.least, 0, least, 0, AREAS);
            System.arraycopy(other.most, 0, most, 0, AREAS);
            System.arraycopy(other.bounds, 0, bounds, 0, RULES);
            ruleBits = other.ruleBits;
            span = other.span;
            caution = other.caution;
            testees = other.testees;
            for (int i = 0; i < ITEMS; i++) items[i].copyFrom(other.items[i]);
            itemCount = other.itemCount;
            System.arraycopy(other.ofAreas, 0, ofAreas, 0, AREAS);
            on = other.on;
            weights.copyFrom(other.weights);
            System.arraycopy(other.asked, 0, asked, 0, ITEMS);
            answers = other.answers;
            System.arraycopy(other.modes, 0, modes, 0, ITEMS + 1);
        }

        // -- levels and items

        boolean othersAreZero(int level) {
            for (int g = 0; g < LEVELS; g++) if (g != level && priors[g] != 0) return false;
            return true;
        }

        int changePrior(int level, int v) {
            int was = priors[level];
            priors[level] = v;
            if (!on) weights.become(priors);
            return was;
        }

        boolean isItem(int item) {
            return within(item, 0, itemCount - 1);
        }

        int addItem(int kind, int area, int height, int slope) {
            if (!isKind(kind) || !isArea(area) || !isLevel(height) || !within(slope, 1, MOST_SLOPE)) return BAD;
            if (itemCount >= ITEMS) return FULL;
            items[itemCount].become(kind, area, height, slope);
            items[itemCount].held = on;
            ofAreas[area] |= 1 << itemCount;
            return itemCount++;
        }

        // -- a test

        /** How many are held back. */
        int start(int seed) {
            testees++;
            int z = seed;
            int heldBack = 0;
            for (int i = 0; i < itemCount; i++) {
                z = stir(z);
                Item item = items[i];
                item.held = 10 * (item.given + 1) > item.ease * testees || (z >>> 9) % 10 < caution;
                if (item.held) heldBack++;
            }
            on = true;
            weights.become(priors);
            weights.lower();
            modes[0] = weights.heaviest();
            return heldBack;
        }

        /** How many answers it had. */
        int finish() {
            int had = answers;
            on = false;
            answers = 0;
            for (int i = 0; i < itemCount; i++) {
                items[i].held = false;
                items[i].reply = NONE;
            }
            weights.become(priors);
            return had;
        }

        boolean mayBeAsked(int item) {
            return items[item].isFree() && askedOf(items[item].area) < most[items[item].area];
        }

        int askedOf(int area) {
            int sum = 0;
            for (int i = 0; i < itemCount; i++) if (items[i].reply != NONE && items[i].area == area) sum++;
            return sum;
        }

        /** Of an ITEM that may be asked: each is once in a TEST, and no WEIGHT is above MOST_PRIOR * 15^8, a long. */
        void ask(int item, int right) {
            if (answers >= ITEMS) return;
            items[item].given++;
            items[item].reply = right;
            weights.go(items[item], right);
            asked[answers++] = item;
            modes[answers] = weights.heaviest();
        }

        /** The TEST of another course goes on here by answers that are drawn: how many came. */
        int goOnFrom(Course other, int seed, int level) {
            copyFrom(other);
            int before = answers;
            int z = seed;
            for (int step = 0; step < ITEMS && isOver() == 0; step++) {
                int item = bestItem();
                if (item < 0) break;
                z = stir(z);
                ask(item, (z >>> 9) % 16 < items[item].right[level] ? 1 : 0);
            }
            return answers - before;
        }

        // -- what to ask

        /** The SHADOW's bits, NO_WAY or GREAT. */
        int bestTest() {
            int wereAsked = 0;
            int mayCome = 0;
            for (int i = 0; i < itemCount; i++) {
                if (items[i].reply != NONE) wereAsked |= 1 << i;
                if (items[i].isFree()) mayCome |= 1 << i;
                informs[i] = weights.informs(items[i]);
            }
            int best = NO_WAY;
            long bestSum = -1;
            for (int free = 0; free <= mayCome; free++) {
                int bits = wereAsked | free;
                if ((free & ~mayCome) != 0 || Integer.bitCount(bits) != span || !keepsQuotas(bits)) continue;
                long sum = together(free);
                if (sum < 0) return GREAT;
                if (sum > bestSum) {
                    bestSum = sum;
                    best = bits;
                }
            }
            return best;
        }

        private boolean keepsQuotas(int bits) {
            for (int a = 0; a < AREAS; a++) {
                int sum = Integer.bitCount(bits & ofAreas[a]);
                if (sum < least[a] || sum > most[a]) return false;
            }
            return true;
        }

        private long together(int bits) {
            long sum = 0;
            for (int i = 0; i < itemCount; i++) if ((bits >> i & 1) == 1) sum = Exact.plus(sum, informs[i]);
            return sum;
        }

        /** NEXT, NONE, NO_WAY or GREAT. */
        int bestItem() {
            int bits = bestTest();
            if (bits < 0) return bits;
            int best = NONE;
            for (int i = 0; i < itemCount; i++) {
                if ((bits >> i & 1) == 0 || items[i].reply != NONE) continue;
                if (best == NONE || informs[i] > informs[best]) best = i;
            }
            return best;
        }

        /** Whether the TEST STOPS (1, 0), or GREAT. */
        int isOver() {
            for (int a = 0; a < AREAS; a++) if (askedOf(a) < least[a]) return 0;
            if (answers >= span) return 1;
            for (int rule = 0; rule < RULES; rule++) {
                if ((ruleBits >> rule & 1) == 0) continue;
                int said = ruleSays(rule);
                if (said != 0) return said;
            }
            return 0;
        }

        /** 1, 0 or GREAT. */
        int ruleSays(int rule) {
            int bound = bounds[rule];
            switch (rule) {
                case COUNT: return answers >= bound ? 1 : 0;
                case SURE: return isSure(bound);
                case NARROW: return isNarrow(bound);
                case POOR: return isPoor(bound);
                default: return isClear(bound);
            }
        }

        private int isSure(int bound) {
            long sure = Exact.times(weights.of[weights.heaviest()], 100);
            long bar = Exact.times(weights.all, bound);
            if (sure < 0 || bar < 0) return GREAT;
            return sure >= bar ? 1 : 0;
        }

        private int isNarrow(int bound) {
            long spread = Exact.times(weights.spreadAbove(), 10);
            long bar = Exact.times(weights.spreadBelow(), bound);
            if (spread < 0 || bar < 0) return GREAT;
            return spread <= bar ? 1 : 0;
        }

        private int isPoor(int bound) {
            long bar = Exact.times(weights.all, bound);
            if (bar < 0) return GREAT;
            for (int i = 0; i < itemCount; i++) {
                if (!items[i].isFree()) continue;
                long sum = weights.informs(items[i]);
                if (sum < 0) return GREAT;
                if (sum >= bar) return 0;
            }
            return 1;
        }

        private int isClear(int bound) {
            if (answers < bound) return 0;
            for (int k = answers - bound; k < answers; k++) if (modes[k] != modes[answers]) return 0;
            return 1;
        }

        // -- what was told

        boolean understands(Sheet told) {
            if (told.length > itemCount) return false;
            for (int i = 0; i < told.length; i++) if (!within(told.of[i], 0, 1)) return false;
            return true;
        }

        /** BEST, were one ITEM (or NONE) of a KIND, and the ANSWER of one (or NONE) the other one. */
        int bestLevel(Sheet told, int changed, int asKind, int turned) {
            int best = 0;
            long bestProduct = -1;
            for (int g = 0; g < LEVELS; g++) {
                long product = 1;
                for (int i = 0; i < told.length && i < itemCount; i++) {
                    int right = i == changed ? items[i].rightAs(asKind, g) : items[i].right[g];
                    int wrongBy = i == turned ? 1 : 0;
                    product *= told.of[i] == wrongBy ? 16 - right : right;
                }
                if (product > bestProduct) {
                    bestProduct = product;
                    best = g;
                }
            }
            return best;
        }

        int kindsFor(Sheet told, int item, int level) {
            int bits = 0;
            for (int k = 0; k < KINDS; k++) if (bestLevel(told, item, k, NONE) == level) bits |= 1 << k;
            return bits;
        }

        int decidingItems(Sheet told) {
            int best = bestLevel(told, NONE, NONE, NONE);
            int bits = 0;
            for (int i = 0; i < told.length; i++) if (bestLevel(told, NONE, NONE, i) != best) bits |= 1 << i;
            return bits;
        }
    }

    /** A row of numbers, or missing; its room is made once and used again. */
    private static final class Sheet {
        int sort = NONE;
        int length = 0;
        final int[] of = new int[LONGEST_SHEET];

        boolean isMissing() {
            return sort == NONE;
        }

        void become(int newSort, int n) {
            sort = newSort;
            length = within(n, 0, LONGEST_SHEET) ? n : 0;
            for (int i = 0; i < LONGEST_SHEET; i++) of[i] = 0;
        }

        /** Whether n places from i on are all inside. */
        boolean has(int i, int n) {
            return i >= 0 && n >= 0 && n <= length && i <= length - n;
        }

        void write(int i, int v) {
            if (has(i, 1)) of[i] = sort == BYTES ? (byte) v : v;
        }
    }
}
