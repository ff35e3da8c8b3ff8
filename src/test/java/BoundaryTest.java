import java.math.BigInteger;
import java.util.Arrays;
import java.util.function.ToLongFunction;

/**
 * Sentence by sentence: each that names a boundary (too small, too large, empty, full, a wrap-around, a refused call)
 * has a test of its own here, by the document's order; what is due was made by hand. No object is used for more than 512 calls.
 */
public final class BoundaryTest extends Bench {
    static final int MOST_PRIOR = 2000000000;
    /** RIGHT of a PLAIN of HEIGHT 4, SLOPE 3: its products keep levels 0, 1, 2 as they are and raise 6, 7, 8 most. */
    static final int[] STEEP = {1, 1, 1, 2, 8, 14, 15, 15, 15};

    // ---- Terms, head 1

    static void levels() {
        at("1: LEVELS are 0 .. 8");
        ShadowTester x = four();
        x.begin(0);
        sheetOf(x, 0, 0, 1);
        for (int g : new int[] {0, 8}) {
            due("prior(" + g + ", 1)", x.prior(g, 1), 1);
            due("by(0, " + g + ", 0)", x.by(0, g, 0), g == 0 ? 6 : 15);
            due("weight(" + g + ")", x.weight(g), 1);
            due("drawn(1, " + g + ", 0)", x.drawn(1, g, 0), 4);
            due("chance of 1 is 0 or 1, by " + g, x.chance(1, g, 1, 1), 1);
            // right by height 1: 15 from level 5 on
            due("tells(0, 10, " + g + ")", x.tells(0, 10, g) & 1, 0);
        }
        for (int g : new int[] {-1, 9, LOW, HIGH}) {
            due("prior(" + g + ", 1)", x.prior(g, 1), BAD);
            due("by(0, " + g + ", 0)", x.by(0, g, 0), BAD);
            due("weight(" + g + ")", x.weight(g), NO);
            due("drawn(1, " + g + ", 0)", x.drawn(1, g, 0), BAD);
            due("chance(1, " + g + ", 1, 0)", x.chance(1, g, 1, 0), BAD);
            due("tells(0, 10, " + g + ")", x.tells(0, 10, g), BAD);
        }
    }

    static void priorsOfLevels() {
        at("1: a PRIOR (0 .. 2000000000)");
        ShadowTester x = new ShadowTester();
        due("prior(3, 0)", x.prior(3, 0), 1);
        due("prior(3, 2000000000)", x.prior(3, MOST_PRIOR), 0);
        for (int v : new int[] {-1, MOST_PRIOR + 1, LOW, HIGH}) due("prior(3, " + v + ")", x.prior(3, v), BAD);
        due("weight(3)", x.weight(3), MOST_PRIOR);

        at("1: PRIOR 1 at first");
        for (int g = 0; g < 9; g++) due("weight(" + g + ")", new ShadowTester().weight(g), 1);
        dueFraction(new ShadowTester(), 0, big(4), big(1));
        dueFraction(new ShadowTester(), 1, big(20), big(3));

        at("1: never are all 0");
        for (int last = 0; last < 9; last++) {
            ShadowTester y = new ShadowTester();
            for (int g = 0; g < 9; g++) if (g != last) due("prior(" + g + ", 0)", y.prior(g, 0), 1);
            due("prior(" + last + ", 0), the last one", y.prior(last, 0), STATE);
            due("weight(" + last + ")", y.weight(last), 1);
        }
    }

    static void areas() {
        at("1: AREAS 0 .. 2");
        ShadowTester x = new ShadowTester();
        for (int a : new int[] {0, 2}) {
            due("quota(" + a + ", 0, 8)", x.quota(a, 0, 8), 8);
            due("item(0, " + a + ", 0, 1)", x.item(0, a, 0, 1), a / 2);
        }
        for (int a : new int[] {-1, 3, LOW, HIGH}) {
            due("quota(" + a + ", 0, 8)", x.quota(a, 0, 8), BAD);
            due("item(0, " + a + ", 0, 1)", x.item(0, a, 0, 1), BAD);
        }

        at("1: a LEAST and a MOST (0 .. 8)");
        due("quota(1, 0, 0)", x.quota(1, 0, 0), 8);
        due("quota(1, 8, 8)", x.quota(1, 8, 8), 0);
        due("quota(1, 0, 8)", x.quota(1, 0, 8), 88);
        int[][] bad = {{-1, 0}, {-1, -1}, {0, -1}, {0, 9}, {8, 9}, {9, 9}, {LOW, HIGH}, {0, HIGH}, {LOW, 8}};
        for (int[] b : bad) due("quota(1, " + b[0] + ", " + b[1] + ")", x.quota(1, b[0], b[1]), BAD);

        at("1: LEAST 0 and MOST 8 at first");
        for (int a = 0; a < 3; a++) due("quota(" + a + ", 1, 1)", new ShadowTester().quota(a, 1, 1), 8);
    }

    static void items() {
        at("1: ITEMS (8 at most, numbered from 0 as they come)");
        ShadowTester x = new ShadowTester();
        due("told(0, 0), there is none", x.told(0, 0), BAD);
        for (int i = 0; i < 8; i++) {
            due("item " + i, x.item(0, 0, i, 1), i);
            due("told(" + (i + 1) + ", 0), not come yet", x.told(i + 1, 0), BAD);
        }
        due("the ninth", x.item(0, 0, 8, 1), FULL);
        for (int i = 0; i < 8; i++) due("told(" + i + ", 2)", x.told(i, 2), i);
        due("count(0)", x.count(0), 8);

        at("1: a KIND, a HEIGHT (0 .. 8), a SLOPE (1 .. 3)");
        int[][] good = {{0, 0, 1}, {5, 0, 1}, {0, 8, 1}, {0, 0, 3}, {5, 8, 3}};
        for (int[] b : good) due("item " + Arrays.toString(b), new ShadowTester().item(b[0], 0, b[1], b[2]), 0);
        int[][] bad = {{-1, 0, 1}, {6, 0, 1}, {LOW, 0, 1}, {HIGH, 0, 1}, {0, -1, 1}, {0, 9, 1}, {0, LOW, 1}, {0, HIGH, 1},
            {0, 0, 0}, {0, 0, 4}, {0, 0, -1}, {0, 0, LOW}, {0, 0, HIGH}};
        for (int[] b : bad) due("item " + Arrays.toString(b), new ShadowTester().item(b[0], 0, b[1], b[2]), BAD);

        at("1: an EASE (0 .. 10; 10 at first), so often each was GIVEN (0 at first)");
        ShadowTester y = four();
        due("told(3, 4)", y.told(3, 4), 10);
        due("told(3, 5)", y.told(3, 5), 0);
        due("ease(3, 0)", y.ease(3, 0), 10);
        due("ease(3, 10)", y.ease(3, 10), 0);
        for (int v : new int[] {-1, 11, LOW, HIGH}) due("ease(3, " + v + ")", y.ease(3, v), BAD);
        for (int i : new int[] {-1, 4, LOW, HIGH}) due("ease(" + i + ", 1)", y.ease(i, 1), BAD);
        due("told(3, 4)", y.told(3, 4), 10);
    }

    static void rightOfKinds() {
        // SLOPE 1, HEIGHT 4: 8 and 2 times (g less 4) is 0, 2, 4 .. 16; SLOPE 3: -16 .. 32
        at("1: PLAIN: 1 at least, 15 at most");
        ShadowTester x = fresh(0, 0, 4, 1, 0, 0, 4, 3, 0, 0, 8, 3, 0, 0, 0, 3);
        int[][] plain = {{1, 2, 4, 6, 8, 10, 12, 14, 15}, STEEP, {1, 1, 1, 1, 1, 1, 1, 2, 8}, {8, 14, 15, 15, 15, 15, 15, 15, 15}};
        for (int i = 0; i < 4; i++) for (int g = 0; g < 9; g++) due("by(" + i + ", " + g + ", 0)", x.by(i, g, 0), plain[i][g]);

        at("1: GUESS: a PLAIN's, 4 at least");
        dueRow(1, 0, 4, 4, 4, 6, 8, 10, 12, 14, 15);
        at("1: SLIP: a PLAIN's, 12 at most");
        dueRow(2, 0, 1, 2, 4, 6, 8, 10, 12, 12, 12);
        at("1: BOTH: a GUESS's, 12 at most");
        dueRow(3, 0, 4, 4, 4, 6, 8, 10, 12, 12, 12);
        at("1: HARD: half of a SLIP's (cut), 1 at least");
        dueRow(4, 0, 1, 1, 2, 3, 4, 5, 6, 6, 6);
        at("1: FLAT: 8");
        dueRow(5, 0, 8, 8, 8, 8, 8, 8, 8, 8, 8);
    }

    static void tellsOfKinds() {
        at("1: TELLS: PLAIN: SLOPE times SLOPE times RIGHT times (16 less RIGHT)");
        dueRow(0, 1, 15, 28, 48, 60, 64, 60, 48, 28, 15);
        due("the most: SLOPE 3, RIGHT 8", fresh(0, 0, 4, 3).by(0, 4, 1), 9 * 64);
        at("1: GUESS: 40 less than a PLAIN, 0 at least");
        dueRow(1, 1, 8, 8, 8, 20, 24, 20, 8, 0, 0);
        at("1: TELLS of SLIP: as a PLAIN (RIGHT of the ITEM's own KIND)");
        dueRow(2, 1, 15, 28, 48, 60, 64, 60, 48, 48, 48);
        at("1: BOTH: 10 more than a GUESS");
        dueRow(3, 1, 18, 18, 18, 30, 34, 30, 18, 18, 18);
        at("1: TELLS of HARD: half of a SLIP's (cut)");
        dueRow(4, 1, 7, 7, 14, 19, 24, 27, 30, 30, 30);
        at("1: TELLS of FLAT: 0");
        dueRow(5, 1, 0, 0, 0, 0, 0, 0, 0, 0, 0);
    }

    /** By levels of an ITEM of HEIGHT 4, SLOPE 1. */
    static void dueRow(int kind, int what, int... row) {
        ShadowTester x = fresh(kind, 0, 4, 1);
        for (int g = 0; g < 9; g++) due("by(0, " + g + ", " + what + ") of KIND " + kind, x.by(0, g, what), row[g]);
    }

    // ---- longs and none

    /** A TEST with all eight of a KIND, HEIGHT, SLOPE answered alike; RIGHT (16 less RIGHT) is told, so that WEIGHTS are known. */
    static ShadowTester eight(int[] item, int right, int[] times, int... prior) {
        ShadowTester x = new ShadowTester();
        priors(x, prior);
        for (int i = 0; i < 8; i++) x.item(item[0], 0, item[1], item[2]);
        x.set(0, 8);
        x.begin(0);
        for (int i = 0; i < 8; i++) x.answer(i, right);
        dueWeights(x, 8, times, prior);
        return x;
    }

    static void dueWeights(ShadowTester x, int answers, int[] times, int[] prior) {
        for (int g = 0; g < 9; g++) {
            long w = prior[g];
            for (int k = 0; k < answers; k++) w = Math.multiplyExact(w, times[g]);
            due("weight(" + g + "), not divided", x.weight(g), w);
        }
    }

    static ShadowTester steep(int... prior) {
        return eight(new int[] {0, 4, 3}, 1, STEEP, prior);
    }

    static void dueFraction(ShadowTester x, int what, BigInteger above, BigInteger below) {
        BigInteger d = above.gcd(below);
        due("now(" + what + ", 0)", x.now(what, 0), above.divide(d).longValueExact());
        due("now(" + what + ", 1)", x.now(what, 1), below.divide(d).longValueExact());
    }

    static void dueNone(ShadowTester x, int what) {
        due("now(" + what + ", 0), great", x.now(what, 0), NO);
        due("now(" + what + ", 1), great", x.now(what, 1), NO);
    }

    static BigInteger big(long v) {
        return BigInteger.valueOf(v);
    }

    static final long GREATEST = Long.MAX_VALUE;

    static void greatAll() {
        at("1: a sum that is none makes it GREAT: ALL, by itself");
        // ALL is 2^63 - 1, then 1 more
        ShadowTester x = steep(754385182, 0, 0, 0, 0, 0, 0, 1598816097, MOST_PRIOR);
        x.set(13, 1);
        due("POOR 1, ALL times 1 is a long", x.says(3), 1);
        x = steep(754385182, 1, 0, 0, 0, 0, 0, 1598816097, MOST_PRIOR);
        x.set(13, 1);
        due("POOR 1, ALL is none", x.says(3), GREAT);
        x.set(13, 0);
        due("POOR 0, ALL is none", x.says(3), GREAT);
        x.set(11, 0);
        due("SURE 0, ALL is none", x.says(1), GREAT);
        due("NARROW 0, ALL is none", x.says(2), GREAT);
        due("COUNT", x.says(0), 1);
        due("CLEAR", x.says(4), 1);
        due("mode()", x.mode(), 8);
        for (int what : new int[] {0, 1, 10, 17, 20, 27}) dueNone(x, what);

        at("1: a sum that is none makes it GREAT, whatever is added then");
        x = steep(1, 0, 0, 0, 0, 0, MOST_PRIOR, MOST_PRIOR, 1);
        for (int r = 1; r < 4; r++) due("says(" + r + ")", x.says(r), GREAT);
        for (int what : new int[] {0, 1, 10, 17, 20, 27}) dueNone(x, what);

        at("2: INFORMS .. over ALL: GREAT by ALL, though the sum above is a long");
        // eight GUESS, HEIGHT 0, SLOPE 1: they tell 24 by level 0 and nothing by 7, 8
        int[] guess = {8, 10, 12, 14, 15, 15, 15, 15, 15};
        x = eight(new int[] {1, 0, 1}, 1, guess, 833122627, 0, 0, 0, 0, 0, 0, 1593362303, MOST_PRIOR);
        dueFraction(x, 10, big(24L * 833122627L << 24), big(GREATEST));
        x = eight(new int[] {1, 0, 1}, 1, guess, 1297220138, 0, 0, 0, 0, 0, 0, 1590324225, 1999999999);
        dueNone(x, 10);

        at("3: ALL isn't made there, no long ALL makes neither this nor NEXT GREAT");
        due("shadow(), ALL is none", x.shadow(), 255);
        due("next(), ALL is none", x.next(), NONE);
        x.set(0, 7);
        due("shadow(), ALL is none, more were asked than SPAN", x.shadow(), NO_WAY);
        due("next(), likewise", x.next(), NO_WAY);
        x.rules(8);
        x.set(0, 8);
        due("stops(), SPAN is looked at ahead of POOR", x.stops(), 1);
    }

    static void greatFractions() {
        at("2: MEAN: S over ALL: GREAT by S");
        // S is 2^63 - 1, then 1 more; ALL is a long
        int[] sum = {1, 415, 0, 4319369, 0, 0, 0, 0, 449852012};
        ShadowTester x = steep(sum);
        long all = 1 + 415 + 4319369L * 256 + 449852012L * 2562890625L;
        dueFraction(x, 0, big(GREATEST), big(all));
        sum[1]++;
        dueNone(steep(sum), 0);

        at("2: LIKELY: .. over 16 times ALL: GREAT by that");
        // ALL is 2^59 - 1, then 1 more
        int[] likely = {207329737, 0, 0, 0, 0, 0, 0, 0, 224926006};
        x = steep(likely);
        dueFraction(x, 20, big(207329737).add(big(224926006L * 15).multiply(big(2562890625L))), big(GREATEST - 15));
        likely[1]++;
        dueNone(steep(likely), 20);
        likely[1]--;
        dueFraction(steep(likely), 0, big(224926006L * 8).multiply(big(2562890625L)), big((1L << 59) - 1));

        at("2: SPREAD: GREAT by the sum of g times g times WEIGHT, times ALL");
        // p by level 8, q by 0: 64 p times (p and q); S times S and ALL times ALL are longs
        x = four();
        priors(x, 4, 0, 0, 0, 0, 0, 0, 0, 379625060);
        dueFraction(x, 1, big(64L * 379625060L * 4), big(379625064L * 379625064L));
        x.prior(0, 5);
        dueNone(x, 1);
        due("MEAN stands", x.now(0, 1), 379625065L / 5);

        at("2: SPREAD: .. over ALL times ALL: GREAT by that");
        x = four();
        priors(x, MOST_PRIOR, 1037000499, 0, 0, 0, 0, 0, 0, 0);
        dueFraction(x, 1, big(2000000000L * 1037000499L), big(3037000499L * 3037000499L));
        x.prior(1, 1037000500);
        dueNone(x, 1);

        at("2: INFORMS: GREAT by the sum of WEIGHT times TELLS");
        x = sevenAndHard(61, 1112, 15637, 249917725);
        all = 61 + 1112L * 128 + 15637L * 2097152 + 249917725L * 170859375;
        dueFraction(x, 17, big(GREATEST), big(all));
        dueNone(sevenAndHard(88, 10375, 26668, 249917683), 17);
    }

    /** Seven steep ones answered right, and a HARD one that tells 216 by level 8 and 67 by the others. */
    static ShadowTester sevenAndHard(int zero, int three, int four, int eight) {
        int[] prior = {zero, 0, 0, three, four, 0, 0, 0, eight};
        ShadowTester x = new ShadowTester();
        priors(x, prior);
        for (int i = 0; i < 7; i++) x.item(0, 0, 4, 3);
        x.item(4, 1, 8, 3);
        x.set(0, 8);
        x.begin(0);
        for (int i = 0; i < 7; i++) x.answer(i, 1);
        dueWeights(x, 7, STEEP, prior);
        return x;
    }

    static void greatNext() {
        at("3: SHADOW: (GREAT: by one of these sets): INFORMS of one");
        ShadowTester x = sevenAndHard(61, 1112, 15637, 249917725);
        due("shadow(), 2^63 - 1", x.shadow(), 255);
        due("next(), 2^63 - 1", x.next(), 7);
        due("POOR 0, 2^63 - 1", x.says(3), 0);
        due("drawn, 2^63 - 1", x.drawn(0, 0, 0), 1);
        x = sevenAndHard(88, 10375, 26668, 249917683);
        due("shadow(), 2^63", x.shadow(), GREAT);
        due("next(), 2^63", x.next(), GREAT);
        due("drawn, 2^63", x.drawn(0, 0, 0), 0);
        x.set(0, 7);
        due("shadow(), it is in no set", x.shadow(), 127);
        due("next(), it is in no set", x.next(), NONE);
        x.set(0, 8);
        x.quota(1, 0, 0);
        due("shadow(), it may be in no set", x.shadow(), NO_WAY);

        at("3: POOR: GREAT by an ITEM's sum of WEIGHT times TELLS");
        due("POOR 0, 2^63", x.says(3), GREAT);
        x.rules(8);
        due("stops(), 2^63", x.stops(), GREAT);

        at("3: SHADOW: (GREAT: by one of these sets): INFORMS of two, together");
        x = sixAndTwo(24, 3969, 5299, 1183571629);
        due("shadow(), 2^63 - 1", x.shadow(), 255);
        due("next(), the one that INFORMS most", x.next(), 7);
        x = sixAndTwo(45, 740, 15426, 1183571555);
        due("shadow(), 2^63", x.shadow(), GREAT);
        due("next(), 2^63", x.next(), GREAT);
        due("drawn, 2^63", x.drawn(0, 0, 0), 0);
        x.set(0, 7);
        due("shadow(), either is a long", x.shadow(), 63 + 128);
    }

    /** Six steep ones answered right; a HARD one and a PLAIN one that tell 280 by level 8, 211 by 7, 67 by 0 .. 5, together. */
    static ShadowTester sixAndTwo(int zero, int three, int four, int seven) {
        int[] prior = {zero, 0, 0, three, four, 0, 0, seven, MOST_PRIOR};
        ShadowTester x = new ShadowTester();
        priors(x, prior);
        for (int i = 0; i < 6; i++) x.item(0, 0, 4, 3);
        x.item(4, 1, 8, 1);
        x.item(0, 1, 8, 2);
        x.set(0, 8);
        x.begin(0);
        for (int i = 0; i < 6; i++) x.answer(i, 1);
        dueWeights(x, 6, STEEP, prior);
        return x;
    }

    static void greatRules() {
        at("3: SURE: GREAT by WEIGHT times 100");
        ShadowTester x = steep(1, 0, 0, 0, 0, 0, 0, 0, 35988160);
        x.set(11, 99);
        due("SURE 99, a long", x.says(1), 1);
        x = steep(1, 0, 0, 0, 0, 0, 0, 0, 35988161);
        due("SURE 0, none", x.says(1), GREAT);

        at("3: SURE: GREAT by ALL times BOUND");
        // ALL times 73 is 2^63 - 1; 1 more in ALL makes it none
        int[] third = {1660414309, 0, 0, 0, 0, 0, 16432950, 16432950, 16432950};
        x = steep(third);
        x.set(11, 73);
        due("SURE 73, a long", x.says(1), 0);
        x.set(11, 74);
        due("SURE 74, none", x.says(1), GREAT);
        third[1]++;
        ShadowTester y = steep(third);
        y.set(11, 73);
        due("SURE 73, none", y.says(1), GREAT);
        y.set(11, 72);
        due("SURE 72, a long", y.says(1), 0);

        at("3: POOR: ALL times BOUND is made first, also with no such ITEM");
        x.set(13, 73);
        due("POOR 73, a long", x.says(3), 1);
        y.set(13, 73);
        due("POOR 73, none", y.says(3), GREAT);

        at("3: NARROW: GREAT by SPREAD's above times 10");
        // p by level 8, q by 0: 640 p times q
        x = narrow(120047983, 0, 120047987, 99);
        due("NARROW 99, a long", x.says(2), 0);
        x = narrow(120047984, 0, 120047987, 99);
        due("NARROW 99, none", x.says(2), GREAT);
        due("SPREAD is a long", x.now(1, 1) > 0 ? 1 : 0, 1);

        at("3: NARROW: GREAT by SPREAD's below times BOUND");
        x = narrow(305230033, 1, 0, 99);
        due("NARROW 99, ALL is 305230034", x.says(2), 1);
        x = narrow(305230034, 1, 0, 99);
        due("NARROW 99, ALL is 305230035", x.says(2), GREAT);
        x.set(12, 98);
        due("NARROW 98, ALL is 305230035", x.says(2), 1);
    }

    static ShadowTester narrow(int zero, int one, int eight, int bound) {
        ShadowTester x = four();
        priors(x, zero, one, 0, 0, 0, 0, 0, 0, eight);
        x.set(12, bound);
        x.begin(0);
        due("weight(0), not divided", x.weight(0), zero);
        return x;
    }

    static void greatWould() {
        int[] back = new int[9];
        for (int g = 0; g < 9; g++) back[g] = 16 - STEEP[g];
        int[] item = {0, 4, 3};

        at("18: GREAT by a WEIGHT times RIGHT, though S goes by others");
        ShadowTester x = eight(item, 0, back, 239921073, 0, 0, 0, 0, 0, 0, 0, 1);
        long all = 239921073L * 2562890625L * 15 + 1;
        long common = big(8).gcd(big(all)).longValue();
        due("would(0, 0, 0), a long", x.would(0, 0, 0), 8 / common);
        due("would(0, 0, 1), a long", x.would(0, 0, 1), all / common);
        x = eight(item, 0, back, 239921074, 0, 0, 0, 0, 0, 0, 0, 1);
        due("would(0, 0, 0), none", x.would(0, 0, 0), NO);
        due("would(0, 0, 1), none", x.would(0, 0, 1), NO);
        due("would(0, 1, 0), a long", x.would(0, 1, 0), 8);
        due("weight(0), as it was", x.weight(0), 239921074L * 2562890625L);

        at("18: GREAT by ALL");
        int[] edge = {119960536, 119960537, 0, 0, 0, 11484700, 0, 0, 32};
        x = eight(item, 0, back, edge);
        due("would(0, 0, 1), ALL is 2^63 - 1", GREATEST % x.would(0, 0, 1), 0);
        edge[8]++;
        x = eight(item, 0, back, edge);
        due("would(0, 0, 1), ALL is 2^63", x.would(0, 0, 1), NO);
        due("would(0, 0, 0), ALL is 2^63", x.would(0, 0, 0), NO);

        at("18: GREAT by S");
        int[] sum = {1, 175, 0, 28856462, 0, 0, 0, 0, 29990134};
        x = steep(sum);
        due("would(0, 1, 0), S is 2^63 - 1", GREATEST % x.would(0, 1, 0), 0);
        sum[1]++;
        x = steep(sum);
        due("would(0, 1, 0), S is 2^63", x.would(0, 1, 0), NO);
        due("would(0, 1, 1), S is 2^63", x.would(0, 1, 1), NO);

        at("2: WEIGHT: the greatest that ANSWERS make is a long");
        x = steep(1, 0, 0, 0, 0, 0, 0, 0, MOST_PRIOR);
        due("weight(8)", x.weight(8), 2000000000L * 2562890625L);
        due("count(2)", x.count(2), 8);
    }

    static void fractions() {
        at("1: FRACTIONS are told in lowest terms: 0 is 0 over 1");
        ShadowTester x = fresh(5, 0, 0, 1);
        priors(x, 7, 0, 0, 0, 0, 0, 0, 0, 0);
        for (int what : new int[] {0, 1, 10}) {
            due("now(" + what + ", 0)", x.now(what, 0), 0);
            due("now(" + what + ", 1)", x.now(what, 1), 1);
        }
        due("would(0, 1, 0)", x.would(0, 1, 0), 0);
        due("would(0, 1, 1)", x.would(0, 1, 1), 1);
        x.begin(0);
        due("chance(0, 8, 10, 0)", x.chance(0, 8, 10, 0), 0);
        due("chance(0, 8, 10, 1)", x.chance(0, 8, 10, 1), 1);

        at("1: FRACTIONS are told in lowest terms: above and below are divided by all that both hold");
        x = fresh(5, 0, 0, 1);
        priors(x, 0, 0, 0, 0, 0, 0, 100000000, 0, 100000000);
        due("MEAN above", x.now(0, 0), 7);
        due("MEAN below", x.now(0, 1), 1);
        due("LIKELY above", x.now(20, 0), 1);
        due("LIKELY below", x.now(20, 1), 2);
        due("SPREAD above", x.now(1, 0), 1);
        due("SPREAD below", x.now(1, 1), 1);
        due("chance above, all", chanceOf(0, 0, 8), 1);
        due("chance below, all", chanceOf(0, 1, 8), 1);
    }

    /** Nothing is asked, so that MODE is 0 for each seed. */
    static int chanceOf(int level, int part, int m) {
        ShadowTester x = new ShadowTester();
        x.begin(0);
        return x.chance(3, level, m, part);
    }

    // ---- Terms, head 2

    static void tests() {
        at("2: A TEST is on or not (not, at first)");
        due("count(6)", new ShadowTester().count(6), 0);
        due("end()", new ShadowTester().end(), STATE);

        at("2: ANSWERS (8 at most, each ITEM once)");
        ShadowTester x = fresh(0, 0, 4, 1, 0, 0, 4, 1, 0, 0, 4, 1, 0, 0, 4, 1, 0, 0, 4, 1, 0, 0, 4, 1, 0, 0, 4, 1, 0, 0, 4, 1);
        x.begin(0);
        for (int i = 7; i >= 0; i--) {
            due("answer(" + i + ", 1)", x.answer(i, 1), 8 - i);
            due("answer(" + i + ", 0), was asked", x.answer(i, 0), STATE);
        }
        for (int i = 0; i < 8; i++) due("a ninth, of " + i, x.answer(i, 1), STATE);
        due("count(2)", x.count(2), 8);
        due("answered(7, 0)", x.answered(7, 0), 0);
        due("answered(8, 0)", x.answered(8, 0), OUTSIDE);

        at("2: (As long as no TEST is on: PRIORS as they are, not divided.)");
        ShadowTester y = four();
        priors(y, 0, 12, 0, 18, 0, 0, 0, 0, 1999999998);
        due("weight(1)", y.weight(1), 12);
        due("weight(3)", y.weight(3), 18);
        due("weight(8)", y.weight(8), 1999999998);

        at("2: all WEIGHTS divided by their greatest common divisor (also as it begins)");
        y.begin(0);
        int[] begun = {0, 2, 0, 3, 0, 0, 0, 0, 333333333};
        for (int g = 0; g < 9; g++) due("weight(" + g + ")", y.weight(g), begun[g]);
        // HEIGHT 7, wrong: 15, 15 and 6 times these: 30, 45 and 1999999998, by 3
        y.answer(3, 0);
        int[] then = {0, 10, 0, 15, 0, 0, 0, 0, 666666666};
        for (int g = 0; g < 9; g++) due("weight(" + g + ")", y.weight(g), then[g]);

        at("2: divided: also by 2");
        ShadowTester two = four();
        priors(two, 2, 0, 4, 0, 0, 0, 0, 0, MOST_PRIOR);
        two.begin(0);
        due("weight(0)", two.weight(0), 1);
        due("weight(2)", two.weight(2), 2);
        due("weight(8)", two.weight(8), 1000000000);

        at("2: divided: a lone LEVEL has 1");
        ShadowTester z = four();
        priors(z, 0, 0, 0, 0, 0, MOST_PRIOR, 0, 0, 0);
        z.begin(0);
        due("weight(5)", z.weight(5), 1);
        for (int i = 0; i < 4; i++) z.answer(i, i % 2);
        due("weight(5)", z.weight(5), 1);
        due("weight(4)", z.weight(4), 0);

        at("2: PRIOR as the TEST began");
        z.prior(4, 9);
        due("weight(4) in the TEST", z.weight(4), 0);
        z.end();
        due("weight(4) behind it", z.weight(4), 9);
        due("weight(5) behind it", z.weight(5), MOST_PRIOR);
    }

    static void modes() {
        at("2: MODE: of like ones the least");
        ShadowTester x = new ShadowTester();
        due("all are like", x.mode(), 0);
        x.prior(8, MOST_PRIOR);
        due("the last alone", x.mode(), 8);
        x.prior(7, MOST_PRIOR);
        due("7 and 8", x.mode(), 7);
        x.prior(7, MOST_PRIOR - 1);
        due("7 has 1 less", x.mode(), 8);
        x.prior(0, MOST_PRIOR);
        due("0 and 8", x.mode(), 0);
    }

    /** z is worked out in BigInteger; of the int's bits those from 9 on tell, as of a number that has no sign. */
    static int drop(int seed, int times, int modulus) {
        BigInteger z = big(seed), room = BigInteger.ONE.shiftLeft(32);
        for (int k = 0; k < times; k++) z = z.multiply(big(1103515245)).add(big(12345)).mod(room);
        return z.mod(room).shiftRight(9).mod(big(modulus)).intValue();
    }

    static void lots() {
        at("2: a LOT (z >>> 9) % 10, z being .. (an int; SEED at first): z wraps around");
        for (int seed : new int[] {0, 1, -1, 2, 1103515245, HIGH, LOW, HIGH - 1, LOW + 1, -12345}) {
            for (int caution : new int[] {1, 5, 9}) {
                ShadowTester x = fresh(0, 0, 0, 1, 0, 0, 0, 1, 0, 0, 0, 1, 0, 0, 0, 1, 0, 0, 0, 1, 0, 0, 0, 1, 0, 0, 0, 1, 0, 0, 0, 1);
                x.set(1, caution);
                int held = 0;
                for (int i = 0; i < 8; i++) if (drop(seed, i + 1, 10) < caution) held++;
                due("begin(" + seed + ")", x.begin(seed), held);
                for (int i = 0; i < 8; i++) due("told(" + i + ", 6)", x.told(i, 6), drop(seed, i + 1, 10) < caution ? 1 : 0);
            }
        }

        at("2: HELD BACK, if its LOT is below CAUTION");
        // by SEED 0 z is 12345, of which (z >>> 9) is 24
        ShadowTester y = fresh(0, 0, 0, 1);
        y.set(1, 4);
        due("LOT 4, CAUTION 4", y.begin(0), 0);
        y.end();
        y.set(1, 5);
        due("LOT 4, CAUTION 5", y.begin(0), 1);

        at("2: CAUTION (0 .. 9; 0 at first)");
        ShadowTester z = four();
        due("set(1, 9)", z.set(1, 9), 0);
        for (int v : new int[] {-1, 10, LOW, HIGH}) due("set(1, " + v + ")", z.set(1, v), BAD);
        due("set(1, 0)", z.set(1, 0), 9);
        for (int seed = 0; seed < 40; seed++) {
            due("begin(" + seed + "), CAUTION 0", z.begin(seed), 0);
            z.end();
        }
    }

    static void heldBack() {
        at("2: TESTEES are 1 more (0 at first; this one counts in what follows)");
        ShadowTester x = fresh(0, 0, 0, 1);
        due("count(1)", x.count(1), 0);
        // 10 times 1 against EASE 9, 10 times TESTEES 1
        x.ease(0, 10);
        due("begin: it counts", x.begin(0), 0);
        due("count(1)", x.count(1), 1);
        due("begin: one is on", x.begin(0), STATE);
        due("count(1), refused", x.count(1), 1);

        at("2: HELD BACK, if 10 times (GIVEN and 1) is above EASE times TESTEES: of GIVEN 0");
        for (int ease = 0; ease <= 10; ease++) {
            ShadowTester y = fresh(0, 0, 0, 1);
            y.ease(0, ease);
            for (int testees = 1; testees <= 12; testees++) {
                due("EASE " + ease + ", TESTEES " + testees, y.begin(0), ease * testees < 10 ? 1 : 0);
                y.end();
            }
        }

        at("2: HELD BACK: of an ITEM that is given each time it may be");
        ShadowTester y = fresh(0, 0, 0, 1);
        y.ease(0, 5);
        int given = 0;
        for (int testees = 1; testees <= 20; testees++) {
            due("TESTEES " + testees, y.begin(0), 10 * (given + 1) > 5 * testees ? 1 : 0);
            if (y.answer(0, 1) == 1) given++;
            y.end();
        }
        due("told(0, 5)", y.told(0, 5), 10);

        at("2: HELD BACK (for this TEST, as it begins)");
        ShadowTester z = fresh(0, 0, 0, 1, 0, 0, 0, 1);
        z.ease(0, 0);
        z.begin(0);
        z.ease(0, 10);
        z.ease(1, 0);
        z.set(1, 9);
        due("told(0, 6)", z.told(0, 6), 1);
        due("told(1, 6)", z.told(1, 6), 0);

        at("2: (ITEMS that come while a TEST is on are HELD BACK in it.)");
        due("item", z.item(5, 2, 0, 1), 2);
        due("told(2, 6)", z.told(2, 6), 1);
        due("answer(2, 1)", z.answer(2, 1), STATE);
        z.set(1, 0);
        z.ease(1, 10);
        z.end();
        due("told(2, 6), no TEST is on", z.told(2, 6), 0);
        due("begin", z.begin(0), 0);
        due("told(2, 6) in another TEST", z.told(2, 6), 0);
        due("answer(2, 1)", z.answer(2, 1), 1);
    }

    // ---- Terms, head 3

    static void spans() {
        at("3: SPAN (1 .. 8; 4 at first)");
        ShadowTester x = new ShadowTester();
        due("count(8)", x.count(8), 4);
        due("set(0, 1)", x.set(0, 1), 4);
        due("set(0, 8)", x.set(0, 8), 1);
        for (int v : new int[] {0, 9, -1, LOW, HIGH}) due("set(0, " + v + ")", x.set(0, v), BAD);
        due("count(8)", x.count(8), 8);

        at("3: A SHADOW is a set of just SPAN ITEMS");
        ShadowTester y = fresh(5, 0, 0, 1, 5, 0, 0, 1, 5, 0, 0, 1, 5, 0, 0, 1, 5, 0, 0, 1, 5, 0, 0, 1, 5, 0, 0, 1);
        y.begin(0);
        for (int span = 1; span <= 7; span++) {
            y.set(0, span);
            due("shadow(), SPAN " + span, y.shadow(), (1 << span) - 1);
        }
        y.set(0, 8);
        due("shadow(), SPAN 8 of 7", y.shadow(), NO_WAY);
        due("next(), SPAN 8 of 7", y.next(), NO_WAY);
        y.end();
        y.item(5, 0, 0, 1);
        y.begin(0);
        due("shadow(), SPAN 8 of 8", y.shadow(), 255);

        at("3: SHADOW of no ITEMS");
        ShadowTester none = new ShadowTester();
        none.set(0, 1);
        none.begin(0);
        due("shadow()", none.shadow(), NO_WAY);
        due("next()", none.next(), NO_WAY);
    }

    static void shadows() {
        // by level 4 alone, INFORMS of heights 1, 3, 5, 7: 28, 60, 60, 28
        at("3: all that were asked");
        ShadowTester x = four();
        priors(x, 0, 0, 0, 0, 1, 0, 0, 0, 0);
        x.set(0, 2);
        x.begin(0);
        due("shadow(), none was", x.shadow(), 6);
        x.answer(0, 1);
        due("shadow(), one was", x.shadow(), 1 + 2);
        x.answer(3, 1);
        due("shadow(), as many as SPAN were", x.shadow(), 1 + 8);
        due("next(), as many as SPAN were", x.next(), NONE);
        x.answer(1, 1);
        due("shadow(), more than SPAN were", x.shadow(), NO_WAY);
        due("next(), more than SPAN were", x.next(), NO_WAY);

        at("3: others that aren't HELD BACK");
        ShadowTester y = four();
        priors(y, 0, 0, 0, 0, 1, 0, 0, 0, 0);
        y.ease(1, 0);
        y.set(0, 3);
        y.begin(0);
        due("shadow(), one is", y.shadow(), 1 + 4 + 8);
        y.set(0, 4);
        due("shadow(), too few aren't", y.shadow(), NO_WAY);
        y.end();
        for (int i = 0; i < 4; i++) y.ease(i, 0);
        y.set(0, 1);
        y.begin(0);
        due("shadow(), all are", y.shadow(), NO_WAY);

        at("3: of each AREA no fewer than LEAST");
        ShadowTester z = four();
        priors(z, 0, 0, 0, 0, 1, 0, 0, 0, 0);
        z.set(0, 2);
        z.begin(0);
        z.quota(2, 1, 8);
        due("shadow(), 1 of area 2", z.shadow(), 2 + 8);
        z.quota(2, 2, 8);
        due("shadow(), 2 of area 2", z.shadow(), NO_WAY);
        z.quota(2, 0, 8);
        z.quota(0, 2, 8);
        due("shadow(), 2 of area 0", z.shadow(), 1 + 2);
        z.quota(1, 1, 8);
        due("shadow(), LEASTS are above SPAN", z.shadow(), NO_WAY);

        at("3: no more than MOST");
        z.quota(0, 0, 8);
        z.quota(1, 0, 0);
        due("shadow(), 0 of area 1", z.shadow(), 1 + 2);
        z.quota(0, 0, 1);
        due("shadow(), 1 of area 0", z.shadow(), 2 + 8);
        z.quota(0, 0, 0);
        due("shadow(), MOSTS are below SPAN", z.shadow(), NO_WAY);
        z.quota(0, 0, 8);
        z.quota(1, 0, 8);
        z.answer(0, 1);
        z.quota(0, 0, 0);
        due("shadow(), more were asked than MOST", z.shadow(), NO_WAY);

        at("3: of like ones the least as bits");
        ShadowTester like = fresh(0, 0, 4, 1, 5, 0, 0, 1, 0, 0, 4, 1, 0, 0, 4, 1);
        like.set(0, 2);
        like.begin(0);
        due("shadow()", like.shadow(), 1 + 4);
        like.answer(3, 1);
        due("shadow(), with one that was asked", like.shadow(), 1 + 8);

        at("3: NEXT: of like ones the least");
        due("next(), 0 alone", like.next(), 0);
        like.set(0, 4);
        due("next(), 0 and 2", like.next(), 0);
        like.answer(0, 1);
        due("next(), of more", like.next(), 2);
        like.answer(2, 0);
        due("next(), of one that tells nothing", like.next(), 1);
        like.answer(1, 0);
        due("next(), all were asked", like.next(), NONE);
    }

    static void rulesOfBounds() {
        at("3: RULES (bits, none at first), each with a BOUND (0 .. 99; 0 at first)");
        ShadowTester x = new ShadowTester();
        due("rules(31)", x.rules(31), 0);
        due("rules(0)", x.rules(0), 31);
        for (int b : new int[] {-1, 32, LOW, HIGH}) due("rules(" + b + ")", x.rules(b), BAD);
        for (int r = 10; r < 15; r++) {
            due("set(" + r + ", 99)", x.set(r, 99), 0);
            due("set(" + r + ", 0)", x.set(r, 0), 99);
            for (int v : new int[] {-1, 100, LOW, HIGH}) due("set(" + r + ", " + v + ")", x.set(r, v), BAD);
        }

        at("3: COUNT: so many ANSWERS as BOUND, or more");
        ShadowTester y = fresh(5, 0, 0, 1, 5, 0, 0, 1, 5, 0, 0, 1, 5, 0, 0, 1, 5, 0, 0, 1, 5, 0, 0, 1, 5, 0, 0, 1, 5, 0, 0, 1);
        y.begin(0);
        for (int n = 0; n <= 8; n++) {
            for (int bound : new int[] {Math.max(0, n - 1), n, n + 1, 99}) {
                y.set(10, bound);
                due("BOUND " + bound + " of " + n, y.says(0), bound > n ? 0 : 1);
            }
            y.answer(n % 8, 1);
        }

        at("3: SURE: WEIGHT of MODE times 100 is ALL times BOUND, or more");
        dueBound(11, 50, 1, 1, 0, 1, 0, 0, 0, 0, 0, 0, 0);
        dueBound(11, 49, 1, 49, 0, 51, 0, 0, 0, 0, 0, 0, 0);
        dueBound(11, 51, 1, 49, 0, 51, 0, 0, 0, 0, 0, 0, 0);
        dueBound(11, 51, 0, 50, 0, 50, 0, 0, 0, 0, 0, 0, 0);
        dueBound(11, 99, 1, 99, 0, 1, 0, 0, 0, 0, 0, 0, 0);
        dueBound(11, 99, 0, 98, 0, 1, 0, 0, 0, 0, 0, 0, 0);
        dueBound(11, 0, 1, 1, 1, 1, 1, 1, 1, 1, 1, 1);
        dueBound(11, 12, 0, 1, 1, 1, 1, 1, 1, 1, 1, 1);
        dueBound(11, 11, 1, 1, 1, 1, 1, 1, 1, 1, 1, 1);

        // by levels 0 and 2 alike: SPREAD 4 over 4, above times 10 is 40; by all: 540 over 81
        at("3: NARROW: SPREAD's above times 10 is SPREAD's below times BOUND, or less");
        dueBound(12, 10, 1, 1, 0, 1, 0, 0, 0, 0, 0, 0);
        dueBound(12, 9, 0, 1, 0, 1, 0, 0, 0, 0, 0, 0);
        dueBound(12, 67, 1, 1, 1, 1, 1, 1, 1, 1, 1, 1);
        dueBound(12, 66, 0, 1, 1, 1, 1, 1, 1, 1, 1, 1);
        dueBound(12, 99, 0, 1, 0, 0, 0, 0, 0, 0, 0, 1);
        dueBound(12, 0, 1, 0, 0, 0, 0, 0, 0, 0, 0, 1);
        dueBound(12, 0, 0, 0, 0, 0, 0, 0, 0, 0, 1, 1);
    }

    /** Whether the RULE of a BOUND says so in a TEST that goes by these PRIORS. */
    static void dueBound(int what, int bound, int said, int... prior) {
        ShadowTester x = four();
        priors(x, prior);
        x.set(what, bound);
        x.begin(0);
        due("BOUND " + bound + " by " + Arrays.toString(prior), x.says(what - 10), said);
    }

    static void poor() {
        at("3: POOR: .. that is ALL times BOUND, or more");
        // by level 4 alone: 28, 60, 60, 28
        ShadowTester x = four();
        priors(x, 0, 0, 0, 0, 5, 0, 0, 0, 0);
        x.begin(0);
        x.set(13, 60);
        due("BOUND 60", x.says(3), 0);
        x.set(13, 61);
        due("BOUND 61", x.says(3), 1);
        x.set(13, 0);
        due("BOUND 0", x.says(3), 0);

        at("3: POOR: no ITEM that is neither asked nor HELD BACK");
        x.end();
        x.ease(1, 0);
        x.begin(0);
        x.set(13, 60);
        due("1 is HELD BACK, 2 is not", x.says(3), 0);
        x.answer(2, 1);
        due("2 was asked", x.says(3), 1);
        x.set(13, 28);
        due("0 and 3 have 28", x.says(3), 0);
        x.answer(0, 1);
        x.answer(3, 1);
        x.set(13, 0);
        due("BOUND 0, none is left", x.says(3), 1);
        ShadowTester none = new ShadowTester();
        none.begin(0);
        due("BOUND 0, no ITEMS", none.says(3), 1);
        ShadowTester flat = fresh(5, 0, 0, 1);
        flat.begin(0);
        due("BOUND 0, one that tells nothing", flat.says(3), 0);
        flat.set(13, 1);
        due("BOUND 1, one that tells nothing", flat.says(3), 1);

        at("3: POOR: ITEMS are looked at by numbers, till one has");
        // six answers make 7's sum none: 963 times 2000000000 times 15 six times, and more
        ShadowTester ahead = sixOf(true);
        due("BOUND 0: the FLAT one ahead has it", ahead.says(3), 0);
        ahead.set(13, 1);
        due("BOUND 1: it hasn't, the next one is looked at", ahead.says(3), GREAT);
        due("BOUND 0: the FLAT one is behind", sixOf(false).says(3), GREAT);
    }

    /** Six that were answered, then one whose INFORMS is none; a FLAT one is the first or the last. */
    static ShadowTester sixOf(boolean flatAhead) {
        ShadowTester x = new ShadowTester();
        for (int g = 0; g < 9; g++) x.prior(g, MOST_PRIOR - g);
        if (flatAhead) x.item(5, 0, 0, 1);
        for (int i = 0; i < 6; i++) x.item(0, 0, 4, 3);
        x.item(0, 0, 8, 3);
        if (!flatAhead) x.item(5, 0, 0, 1);
        x.begin(0);
        for (int i = 0; i < 6; i++) x.answer(flatAhead ? i + 1 : i, 1);
        return x;
    }

    static void clear() {
        at("3: CLEAR: (fewer than BOUND came: no)");
        ShadowTester x = fresh(5, 0, 0, 1, 5, 0, 0, 1, 5, 0, 0, 1, 5, 0, 0, 1, 5, 0, 0, 1, 5, 0, 0, 1, 5, 0, 0, 1, 5, 0, 0, 1);
        x.begin(0);
        for (int n = 0; n <= 8; n++) {
            for (int bound : new int[] {0, n, n + 1, 99}) {
                x.set(14, bound);
                due("BOUND " + bound + " of " + n, x.says(4), bound > n ? 0 : 1);
            }
            x.answer(n % 8, 1);
        }

        at("3: CLEAR: MODES behind the last BOUND ANSWERS, and the one ahead of these");
        // MODE is 0 as it begins, 6 behind the first, and stays
        ShadowTester y = fresh(0, 0, 4, 3, 5, 0, 0, 1, 5, 0, 0, 1);
        y.begin(0);
        y.answer(0, 1);
        due("mode()", y.mode(), 6);
        y.set(14, 0);
        due("BOUND 0: the one now alone", y.says(4), 1);
        y.set(14, 1);
        due("BOUND 1: the one as it began is another", y.says(4), 0);
        y.answer(1, 1);
        due("BOUND 1", y.says(4), 1);
        y.set(14, 2);
        due("BOUND 2: the one as it began is another", y.says(4), 0);
        y.answer(2, 1);
        due("BOUND 2", y.says(4), 1);
        y.set(14, 3);
        due("BOUND 3: all that came", y.says(4), 0);
        y.set(14, 4);
        due("BOUND 4: fewer came", y.says(4), 0);

        at("3: CLEAR: the one ahead of all ANSWERS is that as the TEST began");
        ShadowTester begun = fresh(5, 0, 0, 1, 5, 0, 0, 1);
        begun.prior(5, 2);
        begun.begin(0);
        begun.answer(0, 1);
        begun.set(14, 1);
        due("it was 5, and is", begun.says(4), 1);
        begun.end();
        begun.prior(0, 3);
        begun.begin(0);
        begun.answer(1, 1);
        due("it was 0, and is", begun.says(4), 1);

        at("3: CLEAR: MODES that went and came back aren't all one");
        // PRIORS 5 and 1: 0 as it begins, 6 behind a right one, 0 behind a wrong one
        ShadowTester z = fresh(0, 0, 4, 3, 0, 0, 4, 3, 0, 0, 4, 3);
        priors(z, 5, 0, 0, 0, 0, 0, 1, 0, 0);
        z.begin(0);
        int[] modes = {0, 6, 0, 0};
        for (int n = 0; n < 4; n++) {
            due("mode() behind " + n, z.mode(), modes[n]);
            if (n < 3) z.answer(n, n == 0 ? 1 : 0);
        }
        int[] said = {1, 1, 0, 0, 0};
        for (int bound = 0; bound < 5; bound++) {
            z.set(14, bound);
            due("BOUND " + bound, z.says(4), said[bound]);
        }
    }

    static void stopping() {
        at("3: A TEST STOPS, if of each AREA LEAST or more were asked");
        for (int area = 0; area < 3; area++) {
            ShadowTester x = fresh(5, area, 0, 1, 5, area, 0, 1, 5, (area + 1) % 3, 0, 1);
            x.quota(area, 2, 8);
            x.set(0, 1);
            x.rules(1);
            x.begin(0);
            due("none was", x.stops(), 0);
            x.answer(2, 1);
            x.answer(0, 1);
            due("one was, of 2", x.stops(), 0);
            x.answer(1, 1);
            due("two were, of 2", x.stops(), 1);
            x.quota(area, 1, 8);
            due("two were, of 1", x.stops(), 1);
        }

        at("3: and either SPAN ITEMS or more were");
        ShadowTester y = four();
        y.set(0, 2);
        y.begin(0);
        int[] due = {0, 0, 1, 1, 1};
        for (int n = 0; n <= 4; n++) {
            due("stops(), " + n + " of 2", y.stops(), due[n]);
            if (n < 4) y.answer(n, 1);
        }

        at("3: or a RULE of those that are on says so");
        ShadowTester z = four();
        priors(z, 0, 0, 0, 0, 1, 0, 0, 0, 0);
        for (int r = 0; r < 5; r++) z.set(10 + r, r == 3 ? 61 : 0);
        z.begin(0);
        due("none is on", z.stops(), 0);
        for (int r = 0; r < 5; r++) {
            z.rules(1 << r);
            due("says(" + r + ")", z.says(r), 1);
            due("stops(), RULE " + r + " is on", z.stops(), 1);
        }
        z.set(10, 1);
        z.set(13, 1);
        z.set(14, 1);
        z.rules(1 + 8 + 16);
        due("none of those that are on says so", z.stops(), 0);

        at("3: (looked at in this order, RULES by numbers, till it is told)");
        ShadowTester great = fresh(5, 0, 0, 1);
        for (int g = 0; g < 9; g++) great.prior(g, MOST_PRIOR - g);
        great.begin(0);
        due("NARROW is GREAT", great.says(2), GREAT);
        great.rules(4);
        due("stops(), NARROW alone", great.stops(), GREAT);
        great.rules(4 + 1);
        due("stops(), COUNT is told ahead", great.stops(), 1);
        great.rules(4 + 2);
        due("stops(), SURE is told ahead", great.stops(), 1);
        great.rules(4 + 16);
        due("stops(), CLEAR is not", great.stops(), GREAT);
        great.set(11, 99);
        great.rules(4 + 2);
        due("stops(), SURE says no", great.stops(), GREAT);
        great.quota(1, 1, 1);
        due("stops(), LEAST is looked at ahead", great.stops(), 0);
        great.quota(1, 0, 0);
        great.answer(0, 1);
        due("says(2)", great.says(2), GREAT);
        due("stops(), one was asked, of 4", great.stops(), GREAT);
        great.set(0, 1);
        due("stops(), SPAN is looked at ahead", great.stops(), 1);
    }

    static void asked() {
        at("3: ASKED (any that isn't HELD BACK, nor asked ..)");
        ShadowTester x = four();
        x.ease(3, 0);
        x.begin(0);
        due("answer(3, 1), HELD BACK", x.answer(3, 1), STATE);
        due("told(3, 5)", x.told(3, 5), 0);
        due("answer(0, 1)", x.answer(0, 1), 1);
        due("answer(0, 0), asked", x.answer(0, 0), STATE);
        due("told(0, 7)", x.told(0, 7), 1);

        at("3: .. and of whose AREA fewer than MOST were");
        x.quota(0, 0, 1);
        due("answer(1, 1), 1 was of 1", x.answer(1, 1), STATE);
        x.quota(1, 0, 0);
        due("answer(2, 1), 0 were of 0", x.answer(2, 1), STATE);
        x.quota(1, 0, 1);
        due("answer(2, 1), 0 were of 1", x.answer(2, 1), 2);
        x.quota(0, 0, 2);
        due("answer(1, 1), 1 was of 2", x.answer(1, 1), 3);

        at("3: an ITEM is ASKED also when the TEST STOPS, or the SHADOW is NO_WAY");
        ShadowTester y = four();
        y.set(0, 1);
        y.begin(0);
        y.answer(0, 1);
        due("stops()", y.stops(), 1);
        due("answer(1, 1)", y.answer(1, 1), 2);
        due("shadow()", y.shadow(), NO_WAY);
        due("answer(2, 1)", y.answer(2, 1), 3);

        at("3: it is GIVEN once more, and is answered");
        due("told(2, 5)", y.told(2, 5), 1);
        due("told(3, 5)", y.told(3, 5), 0);
        y.end();
        y.begin(0);
        y.answer(2, 0);
        due("told(2, 5), in another TEST", y.told(2, 5), 2);
    }

    // ---- Terms, heads 4 and 5

    /** How many were asked, and the MODE then, by the calls themselves; the object is used up by it. */
    static int[] drawnByHand(ShadowTester x, int seed, int level) {
        int asked = 0;
        while (x.stops() == 0 && x.next() >= 0) {
            int item = x.next();
            asked++;
            x.answer(item, drop(seed, asked, 16) < x.by(item, level, 0) ? 1 : 0);
        }
        return new int[] {asked, x.mode()};
    }

    static ShadowTester inQuotas() {
        ShadowTester x = four();
        x.prior(4, MOST_PRIOR);
        x.rules(1);
        x.quota(1, 1, 8);
        x.begin(0);
        return x;
    }

    /** Eight steep ones of PRIORS so great that, in thought, something is GREAT ahead of the end. */
    static ShadowTester growing(int prior, int rules) {
        ShadowTester x = fresh(0, 0, 4, 3, 0, 0, 4, 3, 0, 0, 4, 3, 0, 0, 4, 3, 0, 0, 4, 3, 0, 0, 4, 3, 0, 0, 4, 3, 0, 0, 4, 3);
        for (int g = 0; g < 9; g++) x.prior(g, prior - g);
        x.set(0, 8);
        x.rules(rules);
        x.begin(0);
        return x;
    }

    static void draws() {
        at("4: DRAWN: z is an int that wraps around, (z >>> 9) % 16");
        for (int seed : new int[] {0, 1, -1, HIGH, LOW, HIGH - 1, LOW + 1}) {
            for (int g : new int[] {0, 4, 8}) {
                ShadowTester x = four();
                ShadowTester y = four();
                x.begin(0);
                y.begin(0);
                due("drawn(" + seed + ", " + g + ", 1)", x.drawn(seed, g, 1), drawnByHand(y, seed, g)[1]);
            }
        }

        at("4: right, if .. is below RIGHT by g");
        // by SEED 0 24 % 16 is 8: HEIGHT 4 has RIGHT 8 by level 4, and 10 by level 5
        ShadowTester one = fresh(0, 0, 4, 1);
        one.set(0, 1);
        one.begin(0);
        due("8 isn't below 8: wrong, MODE", one.drawn(0, 4, 1), 0);
        due("8 is below 10: right, MODE", one.drawn(0, 5, 1), 8);

        at("4: till it STOPS: at once, behind some, by SPAN");
        ShadowTester x = four();
        x.rules(1);
        x.begin(0);
        for (int bound = 0; bound <= 5; bound++) {
            x.set(10, bound);
            due("COUNT " + bound, x.drawn(7, 4, 0), Math.min(bound, 4));
        }
        due("drawn, none in truth", x.count(2), 0);

        at("4: till it STOPS: all eight");
        ShadowTester all = growing(1, 0);
        due("SPAN 8", all.drawn(7, 4, 0), 8);
        for (int i = 0; i < 8; i++) {
            all.answer(i, 1);
            due("SPAN 8, " + (i + 1) + " were asked", all.drawn(7, 4, 0), 7 - i);
        }

        at("4: till it STOPS: never ahead of its quotas");
        ShadowTester quotas = inQuotas();
        int[] hands = drawnByHand(inQuotas(), 7, 4);
        due("by hand, 1 and then 2, which is of area 1", hands[0], 2);
        due("till LEAST of area 1 were", quotas.drawn(7, 4, 0), hands[0]);
        due("MODE then", quotas.drawn(7, 4, 1), hands[1]);

        at("4: till it STOPS: by CLEAR, MODES of now and of thought together");
        ShadowTester flats = fresh(0, 0, 4, 3, 5, 0, 0, 1, 5, 0, 0, 1, 5, 0, 0, 1);
        flats.set(14, 2);
        flats.rules(16);
        flats.begin(0);
        flats.answer(0, 1);
        due("MODE is 6 behind 1, so behind 3", flats.drawn(7, 4, 0), 2);
        flats.answer(1, 1);
        due("so behind 3, of which two came", flats.drawn(7, 4, 0), 1);

        at("4: or there is no NEXT (NO_WAY, too)");
        x.rules(0);
        x.set(0, 5);
        due("SPAN 5 of 4", x.drawn(7, 4, 0), 0);
        due("MODE of now", x.drawn(7, 4, 1), 0);
        x.set(0, 4);
        x.quota(2, 2, 2);
        due("LEAST 2 of 1", x.drawn(7, 4, 0), 0);
        x.quota(2, 0, 8);
        for (int i = 0; i < 4; i++) x.answer(i, 1);
        due("all were asked", x.drawn(7, 4, 0), 0);
        due("MODE of now", x.drawn(7, 4, 1), x.mode());
        // no NEXT, though it doesn't stop: SPAN were asked, LEAST weren't
        ShadowTester short1 = four();
        short1.set(0, 1);
        short1.begin(0);
        short1.answer(0, 1);
        short1.quota(2, 1, 8);
        due("stops()", short1.stops(), 0);
        due("next()", short1.next(), NO_WAY);
        due("drawn", short1.drawn(7, 4, 0), 0);
        ShadowTester none = new ShadowTester();
        none.begin(0);
        due("no ITEMS", none.drawn(7, 4, 0), 0);

        at("4: or one is GREAT: NEXT, behind some");
        ShadowTester end = growing(MOST_PRIOR, 0);
        int[] hand = drawnByHand(end, 5, 8);
        due("it was GREAT", end.next(), GREAT);
        due("behind some, not all", hand[0] > 0 && hand[0] < 8 ? 1 : 0, 1);
        due("how many", growing(MOST_PRIOR, 0).drawn(5, 8, 0), hand[0]);
        due("MODE then", growing(MOST_PRIOR, 0).drawn(5, 8, 1), hand[1]);

        at("4: or one is GREAT: whether it STOPS, behind some");
        end = growing(1000, 4);
        hand = drawnByHand(end, 5, 8);
        due("it was GREAT", end.stops(), GREAT);
        due("behind some, not all", hand[0] > 0 && hand[0] < 8 ? 1 : 0, 1);
        due("how many", growing(1000, 4).drawn(5, 8, 0), hand[0]);
        due("MODE then", growing(1000, 4).drawn(5, 8, 1), hand[1]);
    }

    static void chances() {
        at("4: IN m seeds (1 .. 10)");
        ShadowTester x = four();
        x.begin(0);
        due("m 1, below", x.chance(0, 0, 1, 1), 1);
        due("m 10, a divisor of it below", 10 % x.chance(0, 0, 10, 1), 0);
        for (int m : new int[] {0, 11, -1, LOW, HIGH}) due("m " + m, x.chance(0, 0, m, 0), BAD);

        at("4: SEED and each 1 more (an int): behind the greatest comes the least");
        for (int seed : new int[] {HIGH, HIGH - 4, -1, LOW}) {
            for (int g : new int[] {2, 4, 6}) {
                ShadowTester y = four();
                y.begin(0);
                int in = 0;
                for (int k = 0; k < 10; k++) if (Math.abs(y.drawn(seed + k, g, 1) - g) <= 1) in++;
                int d = big(in).gcd(big(10)).intValue();
                due("chance(" + seed + ", " + g + ", 10, 0)", y.chance(seed, g, 10, 0), in / d);
                due("chance(" + seed + ", " + g + ", 10, 1)", y.chance(seed, g, 10, 1), 10 / d);
            }
        }

        at("4: no farther than 1 from g");
        // nothing is asked: MODE is that of PRIORS
        for (int mode = 0; mode < 9; mode++) {
            ShadowTester y = new ShadowTester();
            y.prior(mode, 2);
            y.begin(0);
            for (int g = 0; g < 9; g++) due("MODE " + mode + ", g " + g, y.chance(0, g, 3, 0), Math.abs(mode - g) < 2 ? 1 : 0);
        }
    }

    static void tellings() {
        at("4: a SHEET tells ANSWERS of ITEMS 0, 1, .. (8 at most): eight of them, and products above all ints");
        // 15 eight times is 2562890625: no int
        ShadowTester x = fresh(0, 0, 0, 3, 0, 0, 0, 3, 0, 0, 0, 3, 0, 0, 0, 3, 0, 0, 0, 3, 0, 0, 0, 3, 0, 0, 0, 3, 0, 0, 0, 3);
        sheetOf(x, 0, 0, 1, 1, 1, 1, 1, 1, 1, 1);
        due("BEST", x.tells(0, 0, 0), 2);
        due("KINDS of 7 for 2", x.tells(0, 17, 2), 1 + 2 + 4 + 8 + 16 + 32);
        due("ITEMS", x.tells(0, 1, 0), 255);
        sheetOf(x, 0, 0, 0, 0, 0, 0, 0, 0, 0, 0);
        due("BEST, all wrong", x.tells(0, 0, 0), 0);
        sheetOf(x, 0, 0, 1, 1, 1, 1, 1, 1, 1, 1, 1);
        due("nine of them", x.tells(0, 0, 0), BAD);
        x.sheet(0, 1, 40);
        due("forty of them", x.tells(0, 1, 0), BAD);

        at("4: it tells of none");
        x.sheet(0, 1, 0);
        due("BEST", x.tells(0, 0, 0), 0);
        due("KINDS of 0 for 0", x.tells(0, 10, 0), 63);
        due("KINDS of 7 for 1", x.tells(0, 17, 1), 0);
        due("ITEMS", x.tells(0, 1, 0), 0);
        ShadowTester none = new ShadowTester();
        none.sheet(3, 0, 0);
        due("BEST, no ITEMS", none.tells(3, 0, 0), 0);
        due("ITEMS, no ITEMS", none.tells(3, 1, 0), 0);
        due("KINDS, no ITEMS", none.tells(3, 10, 0), BAD);
        none.sheet(3, 0, 1);
        due("BEST, 1 of no ITEMS", none.tells(3, 0, 0), BAD);

        at("25: BAD: .. one isn't 0, 1");
        for (int sort = 0; sort < 2; sort++) {
            for (int i = 0; i < 3; i++) {
                for (int v : new int[] {-1, 2, 127, LOW + 2, HIGH}) {
                    ShadowTester y = fresh(0, 0, 4, 3, 0, 0, 4, 3, 0, 0, 4, 3);
                    sheetOf(y, 0, sort, 1, 1, 1);
                    due("tells, all are", y.tells(0, 0, 0), 6);
                    y.put(0, i, v);
                    for (int what : new int[] {0, 1, 10}) due("tells(0, " + what + ", 0), item " + i + " is " + v, y.tells(0, what, 0), BAD);
                }
            }
        }

        at("4: BEST: of like ones the least");
        ShadowTester y = fresh(5, 0, 0, 1, 0, 0, 4, 3);
        sheetOf(y, 1, 1, 1);
        due("all are like", y.tells(1, 0, 0), 0);
        sheetOf(y, 1, 1, 1, 1);
        due("6, 7, 8 are like", y.tells(1, 0, 0), 6);
        sheetOf(y, 1, 1, 0, 0);
        due("0, 1, 2 are like", y.tells(1, 0, 0), 0);

        at("4: BEST: .. RIGHT (16 less RIGHT): of one wrong where RIGHT is 15, and two right");
        // wrong 15, 15, 15, 14, 8, 2, 1, 1, 1, times right 1, 1, 1, 1, 1, 2, 4, 6, 8, twice
        ShadowTester last = fresh(0, 0, 4, 3, 0, 0, 8, 1, 0, 0, 8, 1);
        sheetOf(last, 1, 1, 0, 1, 1);
        due("64 is above 15", last.tells(1, 0, 0), 8);
        sheetOf(last, 1, 1, 0, 1);
        due("8 is not", last.tells(1, 0, 0), 0);

        at("4: ITEMS (bits; of those told) whose ANSWER, were it the other one, would change BEST");
        due("the second one does, the FLAT one doesn't", y.tells(1, 1, 0), 2);
        sheetOf(y, 1, 1, 0);
        due("of the first alone", y.tells(1, 1, 0), 0);

        at("4: KINDS: with which BEST would be a told LEVEL (0 .. 8)");
        // HEIGHT 4, SLOPE 3, right: from 6 on 15; SLIP, BOTH from 5 on 12, HARD from 5 on 6; FLAT: all alike
        ShadowTester z = fresh(2, 0, 4, 3);
        sheetOf(z, 2, 0, 1);
        int[] kinds = {32, 0, 0, 0, 0, 4 + 8 + 16, 1 + 2, 0, 0};
        for (int g = 0; g < 9; g++) due("for " + g, z.tells(2, 10, g), kinds[g]);
    }

    /** Eight FLAT ones, answered from the last on, so that MODE stays. */
    static ShadowTester flatEight(int mode) {
        ShadowTester x = new ShadowTester();
        for (int i = 0; i < 8; i++) x.item(5, i % 3, 0, 1);
        x.prior(mode, 2);
        x.begin(0);
        for (int i = 7; i >= 0; i--) x.answer(i, i % 2);
        return x;
    }

    static void images() {
        at("28: STATE: there is none");
        ShadowTester x = new ShadowTester();
        due("back()", x.back(), STATE);

        at("27: AN IMAGE is kept: how many ITEMS: none, and eight");
        due("image()", x.image(), 0);
        for (int i = 0; i < 8; i++) x.item(i % 6, i % 3, i, 1 + i % 3);
        due("back() to none", x.back(), 0);
        due("told(0, 0)", x.told(0, 0), BAD);
        due("item", x.item(4, 2, 8, 3), 0);
        for (int i = 1; i < 8; i++) x.item(0, 0, i, 1);
        due("image()", x.image(), 8);
        due("back() to eight", x.back(), 8);
        due("a ninth", x.item(0, 0, 0, 1), FULL);
        due("told(0, 2)", x.told(0, 2), 8);

        at("4: AN IMAGE keeps all but SHEETS");
        x.sheet(0, 1, 2);
        x.image();
        x.sheet(0, 1, 3);
        x.sheet(1, 0, 1);
        x.put(0, 2, 7);
        x.back();
        due("put(0, 2, 7), it is as long as it was", x.put(0, 2, 7), 1);
        due("put(1, 0, 1), it isn't missing", x.put(1, 0, 1), 1);
        x.sheet(1, -1, 0);
        x.back();
        due("put(1, 0, 1), it is missing", x.put(1, 0, 1), MISSING);

        at("28: All that it keeps is as in THE IMAGE");
        for (int which = 0; which < 4; which++) {
            ShadowTester z = state(which);
            z.image();
            changeAll(z);
            due("back() to state " + which, z.back(), state(which).count(0));
            due("it can't be told from state " + which + " (1)", look(z).equals(look(state(which))) ? 1 : 0, 1);
        }

        at("28: All that it keeps is as in THE IMAGE: of a TEST that is full, its MODES too");
        ShadowTester full = flatEight(3);
        full.set(14, 8);
        full.image();
        full.end();
        full.prior(5, 9);
        full.begin(0);
        for (int i = 0; i < 8; i++) full.answer(i, 1);
        due("mode() of another TEST", full.mode(), 5);
        due("back()", full.back(), 8);
        due("mode()", full.mode(), 3);
        for (int i = 0; i < 8; i++) due("answered(" + i + ", 0)", full.answered(i, 0), 7 - i);
        for (int bound = 0; bound <= 8; bound++) {
            full.set(14, bound);
            due("CLEAR " + bound, full.says(4), 1);
        }

        at("28: All that it keeps is as in THE IMAGE: how often that is asked for");
        ShadowTester y = four();
        y.begin(0);
        y.answer(0, 1);
        y.image();
        for (int again = 0; again < 3; again++) {
            y.answer(1, 1);
            y.end();
            y.begin(3);
            due("back()", y.back(), 4);
            due("count(1)", y.count(1), 1);
            due("count(2)", y.count(2), 1);
            due("told(1, 5)", y.told(1, 5), 0);
            due("stops()", y.stops(), 0);
        }
    }

    /** A number that is 0 .. 8 of a row, read by an ITEM's HEIGHT; SHEET 3 is used for it. */
    static int read(ShadowTester x, int sheet, int sort, int i) {
        x.image();
        sheetOf(x, 3, sort, 0, 0, 0, 1);
        x.copy(sheet, i, 3, 2, 1);
        int height = x.load(3, sort, 0, 1) == 1 ? x.told(x.count(0) - 1, 2) : BAD;
        x.back();
        return height;
    }

    static void sheets() {
        at("5: SHEETS 0 .. 3, or missing (as all are at first)");
        ShadowTester x = new ShadowTester();
        for (int s = 0; s < 4; s++) {
            due("put(" + s + ", 0, 1)", x.put(s, 0, 1), MISSING);
            due("tells(" + s + ", 0, 0)", x.tells(s, 0, 0), MISSING);
            due("copy(" + s + ", 0, " + s + ", 0, 0)", x.copy(s, 0, s, 0, 0), MISSING);
            due("load(" + s + ", 1, 0, 0)", x.load(s, 1, 0, 0), MISSING);
            due("sheet(" + s + ", 1, 1)", x.sheet(s, 1, 1), 1);
        }
        for (int s : new int[] {-1, 4, LOW, HIGH}) {
            due("put(" + s + ", 0, 1)", x.put(s, 0, 1), BAD);
            due("tells(" + s + ", 0, 0)", x.tells(s, 0, 0), BAD);
            due("copy(" + s + ", 0, 0, 0, 0)", x.copy(s, 0, 0, 0, 0), BAD);
            due("copy(0, 0, " + s + ", 0, 0)", x.copy(0, 0, s, 0, 0), BAD);
            due("load(" + s + ", 1, 0, 0)", x.load(s, 1, 0, 0), BAD);
            due("sheet(" + s + ", 1, 1)", x.sheet(s, 1, 1), BAD);
            due("sheet(" + s + ", -1, 0)", x.sheet(s, -1, 0), BAD);
        }

        at("5: of sort 0 bytes, 1 ints");
        for (int sort : new int[] {2, -2, LOW, HIGH}) {
            due("sheet(0, " + sort + ", 1)", x.sheet(0, sort, 1), BAD);
            due("load(0, " + sort + ", 0, 0)", x.load(0, sort, 0, 0), BAD);
        }
        due("load(0, -1, 0, 0)", x.load(0, -1, 0, 0), BAD);

        at("30: A SHEET becomes a row of n (0 .. 40)");
        for (int sort = 0; sort < 2; sort++) {
            for (int n : new int[] {0, 1, 39, 40}) {
                due("sheet(0, " + sort + ", " + n + ")", x.sheet(0, sort, n), 1);
                due("put(0, " + (n - 1) + ", 1)", x.put(0, n - 1, 1), n > 0 ? 1 : OUTSIDE);
                due("put(0, " + n + ", 1)", x.put(0, n, 1), OUTSIDE);
            }
            for (int n : new int[] {41, HIGH}) due("sheet(0, " + sort + ", " + n + ")", x.sheet(0, sort, n), BAD);
            for (int n : new int[] {-1, LOW}) due("sheet(0, " + sort + ", " + n + ")", x.sheet(0, sort, n), BELOW);
        }
        due("put(0, 39, 1), as it was", x.put(0, 39, 1), 1);

        at("30: all 0");
        ShadowTester y = fresh(5, 0, 0, 1, 5, 0, 0, 1);
        sheetOf(y, 0, 1, 2, 3);
        due("tells, it holds 2, 3", y.tells(0, 0, 0), BAD);
        y.sheet(0, 0, 2);
        due("tells, it holds 0, 0", y.tells(0, 0, 0), 0);
        due("as it is read", read(y, 0, 0, 1), 0);
        sheetOf(y, 0, 0, 5);
        y.sheet(0, 1, 1);
        due("as it is read", read(y, 0, 1, 0), 0);

        at("30: or missing (sort -1: n does not matter)");
        for (int n : new int[] {0, 40, 41, -1, HIGH, LOW}) {
            y.sheet(1, 1, 1);
            due("sheet(1, -1, " + n + ")", y.sheet(1, -1, n), 1);
            due("put(1, 0, 0)", y.put(1, 0, 0), MISSING);
        }
        due("once more", y.sheet(1, -1, 0), 1);
    }

    static void puts() {
        at("31: -12: a place outside");
        ShadowTester x = new ShadowTester();
        x.sheet(0, 1, 3);
        for (int i = 0; i < 3; i++) due("put(0, " + i + ", 1)", x.put(0, i, 1), 1);
        for (int i : new int[] {-1, 3, 39, 40, LOW, HIGH}) due("put(0, " + i + ", 1)", x.put(0, i, 1), OUTSIDE);
        x.sheet(0, 1, 0);
        for (int i : new int[] {-1, 0, 1}) due("put(0, " + i + ", 1), an empty row", x.put(0, i, 1), OUTSIDE);

        at("31: (of bytes its lowest 8 bits)");
        x.sheet(1, 0, 1);
        int[][] bytes = {{7, 7}, {256, 0}, {256 + 7, 7}, {-256 + 7, 7}, {LOW + 5, 5}, {HIGH - 255 + 3, 3}, {1 << 16, 0}, {9, BAD},
            {-1, BAD}, {255, BAD}, {128, BAD}};
        for (int[] b : bytes) {
            x.put(1, 0, b[0]);
            due("put(1, 0, " + b[0] + ")", read(x, 1, 0, 0), b[1]);
        }

        at("31: of ints all of it");
        x.sheet(1, 1, 1);
        for (int v : new int[] {256, 256 + 7, LOW + 5, HIGH, LOW, -1, 1 << 16}) {
            x.put(1, 0, v);
            due("put(1, 0, " + v + ")", read(x, 1, 1, 0), BAD);
        }
        x.put(1, 0, 8);
        due("put(1, 0, 8)", read(x, 1, 1, 0), 8);
    }

    static void copies() {
        at("32: -12 (also with n below 0): places by both rows");
        ShadowTester x = new ShadowTester();
        x.sheet(0, 1, 6);
        x.sheet(1, 1, 4);
        int[][] in = {{0, 0, 4}, {2, 0, 4}, {5, 3, 1}, {0, 3, 1}, {6, 4, 0}, {0, 0, 0}, {6, 0, 0}, {0, 4, 0}};
        for (int[] c : in) due("copy(0, " + c[0] + ", 1, " + c[1] + ", " + c[2] + ")", x.copy(0, c[0], 1, c[1], c[2]), c[2]);
        int[][] out = {{0, 0, 5}, {3, 0, 4}, {0, 1, 4}, {6, 0, 1}, {0, 4, 1}, {-1, 0, 1}, {0, -1, 1}, {-1, -1, 1}, {7, 0, 0}, {0, 5, 0}, {-1, 0, 0},
            {0, -1, 0}, {0, 0, -1}, {3, 3, -1}, {6, 4, -4}, {0, 0, LOW}, {6, 4, LOW}};
        for (int[] c : out) due("copy(0, " + c[0] + ", 1, " + c[1] + ", " + c[2] + ")", x.copy(0, c[0], 1, c[1], c[2]), OUTSIDE);

        at("32: -12: where a place and n together would wrap around");
        int[][] wrap = {{HIGH, 0, 1}, {0, HIGH, 1}, {1, 0, HIGH}, {0, 1, HIGH}, {1, 1, HIGH}, {HIGH, HIGH, HIGH}, {LOW, 0, 1}, {0, LOW, 1},
            {LOW, LOW, LOW}, {HIGH, 0, HIGH}, {2, 2, HIGH - 1}, {HIGH, 0, 0}, {LOW, 0, LOW}, {HIGH, HIGH, 2}};
        for (int[] c : wrap) due("copy(0, " + c[0] + ", 1, " + c[1] + ", " + c[2] + ")", x.copy(0, c[0], 1, c[1], c[2]), OUTSIDE);

        at("32: of an empty row, and to one");
        x.sheet(1, 1, 0);
        due("none to it", x.copy(0, 0, 1, 0, 0), 0);
        due("one to it", x.copy(0, 0, 1, 0, 1), OUTSIDE);
        due("one of it", x.copy(1, 0, 0, 0, 1), OUTSIDE);
        due("none of it to the end", x.copy(1, 0, 0, 6, 0), 0);

        at("32: (as they were): a row upon itself");
        int[][] moves = {{0, 1, 5}, {1, 0, 5}, {0, 0, 6}, {0, 3, 3}, {2, 1, 4}, {0, 2, 4}};
        for (int[] c : moves) {
            ShadowTester y = new ShadowTester();
            sheetOf(y, 0, c[2] % 2, 3, 1, 4, 1, 5, 8);
            int[] due = {3, 1, 4, 1, 5, 8};
            System.arraycopy(due.clone(), c[0], due, c[1], c[2]);
            due("copy " + Arrays.toString(c), y.copy(0, c[0], 0, c[1], c[2]), c[2]);
            for (int i = 0; i < 6; i++) due("item " + i + " behind copy " + Arrays.toString(c), read(y, 0, c[2] % 2, i), due[i]);
        }

        at("32: n numbers and no more");
        ShadowTester z = new ShadowTester();
        sheetOf(z, 0, 0, 1, 2, 3, 4);
        sheetOf(z, 1, 0, 8, 8, 8, 8);
        due("copy(0, 1, 1, 2, 1)", z.copy(0, 1, 1, 2, 1), 1);
        int[] due = {8, 8, 2, 8};
        for (int i = 0; i < 4; i++) due("item " + i, read(z, 1, 0, i), due[i]);
        z.put(0, 1, 7);
        due("it doesn't go on with the other", read(z, 1, 0, 2), 2);

        at("32: -13: they are of unlike sorts: none of them, too");
        z.sheet(2, 1, 4);
        due("copy(0, 0, 2, 0, 0)", z.copy(0, 0, 2, 0, 0), UNLIKE);
        due("copy(2, 0, 0, 0, 1)", z.copy(2, 0, 0, 0, 1), UNLIKE);
    }

    static void loads() {
        at("33: n of them (0 .. 8)");
        ShadowTester x = new ShadowTester();
        x.sheet(0, 1, 32);
        for (int i = 3; i < 32; i += 4) x.put(0, i, 1);
        due("load of 0", x.load(0, 1, 0, 0), 0);
        due("count(0)", x.count(0), 0);
        due("load of 8", x.load(0, 1, 0, 8), 8);
        due("count(0)", x.count(0), 8);
        for (int n : new int[] {-1, 9, LOW, HIGH}) due("load of " + n, x.load(0, 1, 0, n), BAD);

        at("33: (others are left out): FULL");
        due("load of 8, FULL", x.load(0, 1, 0, 8), 0);
        ShadowTester six = fresh(0, 0, 0, 1, 0, 0, 0, 1, 0, 0, 0, 1, 0, 0, 0, 1, 0, 0, 0, 1, 0, 0, 0, 1);
        sheetOf(six, 0, 0, 1, 1, 1, 1, 2, 2, 2, 2, 3, 0, 3, 3);
        due("load of 3, there is room for 2", six.load(0, 0, 0, 3), 2);
        due("told(6, 0)", six.told(6, 0), 1);
        due("told(7, 0)", six.told(7, 0), 2);

        at("33: (others are left out): BAD, each number too small and too great");
        int[][] bad = {{-1, 0, 0, 1}, {6, 0, 0, 1}, {0, -1, 0, 1}, {0, 3, 0, 1}, {0, 0, -1, 1}, {0, 0, 9, 1}, {0, 0, 0, 0}, {0, 0, 0, 4},
            {LOW, 0, 0, 1}, {0, HIGH, 0, 1}, {0, 0, LOW, 1}, {0, 0, 0, HIGH}};
        for (int[] b : bad) {
            ShadowTester y = new ShadowTester();
            sheetOf(y, 0, 1, b[0], b[1], b[2], b[3], 5, 2, 8, 3);
            due("load of " + Arrays.toString(b) + " and a good one", y.load(0, 1, 0, 2), 1);
            due("told(0, 2), the good one", y.told(0, 2), 8);
        }

        at("33: -12: what stood ahead came");
        ShadowTester z = new ShadowTester();
        sheetOf(z, 2, 0, 1, 1, 1, 1, 9, 0, 0, 1, 2, 2, 2, 2, 1, 8, 3);
        due("load of 4, the last lacks one", z.load(2, 0, 0, 4), OUTSIDE);
        due("count(0)", z.count(0), 2);
        due("told(1, 0)", z.told(1, 0), 2);
        due("load of 3 from 0", z.load(2, 0, 0, 3), 2);
        due("load of 1 from 11, to the end", z.load(2, 0, 11, 1), 1);
        due("told(4, 0)", z.told(4, 0), 2);
        due("load of 1 from 12", z.load(2, 0, 12, 1), OUTSIDE);
        due("load of 2 from 11", z.load(2, 0, 11, 2), OUTSIDE);
        due("count(0)", z.count(0), 6);

        at("33: -12: from below 0, behind the end, where it would wrap around");
        for (int from : new int[] {-1, -4, 15, 16, HIGH, HIGH - 3, HIGH - 4, LOW, LOW + 4}) {
            due("load of 1 from " + from, z.load(2, 0, from, 1), OUTSIDE);
            due("load of 8 from " + from, z.load(2, 0, from, 8), OUTSIDE);
        }
        due("count(0)", z.count(0), 6);

        at("33: of an empty row");
        z.sheet(1, 1, 0);
        due("load of 0", z.load(1, 1, 0, 0), 0);
        due("load of 1", z.load(1, 1, 0, 1), OUTSIDE);
    }

    // ---- numbers that a call takes

    static ShadowTester inTest() {
        ShadowTester x = four();
        x.begin(0);
        x.answer(0, 1);
        x.answer(3, 0);
        return x;
    }

    static void whats() {
        at("8: told: what 0 .. 7, an ITEM that is");
        ShadowTester x = inTest();
        int[] due = {0, 2, 7, 1, 10, 1, 0, 0};
        for (int w = 0; w < 8; w++) due("told(3, " + w + ")", x.told(3, w), due[w]);
        for (int w : new int[] {-1, 8, LOW, HIGH}) due("told(3, " + w + ")", x.told(3, w), BAD);
        for (int i : new int[] {-1, 4, 8, LOW, HIGH}) due("told(" + i + ", 0)", x.told(i, 0), BAD);

        at("8: how it was answered in this TEST (7: 1 right, 0 wrong; NONE: not, or no TEST is on)");
        due("told(0, 7)", x.told(0, 7), 1);
        due("told(1, 7)", x.told(1, 7), NONE);
        x.end();
        due("told(0, 7)", x.told(0, 7), NONE);
        due("told(3, 7)", x.told(3, 7), NONE);

        at("9: by: what 0, 1, an ITEM that is");
        due("by(0, 0, 0)", x.by(0, 0, 0), 6);
        due("by(3, 8, 1)", x.by(3, 8, 1), 60);
        for (int w : new int[] {-1, 2, LOW, HIGH}) due("by(0, 0, " + w + ")", x.by(0, 0, w), BAD);
        for (int i : new int[] {-1, 4, LOW, HIGH}) due("by(" + i + ", 0, 0)", x.by(i, 0, 0), BAD);

        at("6: set: what 0, 1, 10 .. 14");
        for (int w : new int[] {-1, 2, 9, 15, LOW, HIGH}) due("set(" + w + ", 1)", x.set(w, 1), BAD);

        at("10: taken: KIND k 0 .. 5, an ITEM that is");
        due("taken(3, 0)", x.taken(3, 0), 7);
        due("taken(3, 5)", x.taken(3, 5), UNLIKE);
        for (int k : new int[] {-1, 6, LOW, HIGH}) due("taken(3, " + k + ")", x.taken(3, k), BAD);
        for (int i : new int[] {-1, 4, LOW, HIGH}) due("taken(" + i + ", 0)", x.taken(i, 0), BAD);

        at("10: one under that: -13 of a KIND that stands beside, or above");
        int[][] under = {{0}, {0, 1}, {0, 2}, {0, 1, 3}, {0, 2, 4}, {0, 5}};
        for (int kind = 0; kind < 6; kind++) {
            ShadowTester y = fresh(kind, 0, kind + 3, 1);
            for (int k = 0; k < 6; k++) {
                boolean is = Arrays.binarySearch(under[kind], k) >= 0;
                due("taken for " + k + ", it is of " + kind, y.taken(0, k), is ? kind + 3 : UNLIKE);
            }
        }
    }

    static void whatsOfTests() {
        at("12: answer: right 1, 0, an ITEM that is");
        ShadowTester x = inTest();
        for (int r : new int[] {-1, 2, LOW, HIGH}) due("answer(1, " + r + ")", x.answer(1, r), BAD);
        for (int i : new int[] {-1, 4, LOW, HIGH}) due("answer(" + i + ", 1)", x.answer(i, 1), BAD);
        due("count(2)", x.count(2), 2);

        at("13: how many ANSWERS it had: eight, of eight ITEMS");
        ShadowTester eight = fresh(5, 0, 0, 1, 5, 0, 0, 1, 5, 0, 0, 1, 5, 0, 0, 1, 5, 0, 0, 1, 5, 0, 0, 1, 5, 0, 0, 1, 5, 0, 0, 1);
        eight.begin(0);
        for (int i = 0; i < 8; i++) eight.answer(i, 1);
        due("end()", eight.end(), 8);
        for (int i = 0; i < 8; i++) due("told(" + i + ", 7)", eight.told(i, 7), NONE);
        due("begin(0)", eight.begin(0), 0);
        due("answer(7, 1), anew", eight.answer(7, 1), 1);

        at("13: how many ANSWERS it had: none");
        ShadowTester none = new ShadowTester();
        none.begin(0);
        due("end()", none.end(), 0);
        due("end(), once more", none.end(), STATE);

        at("14: answered: what 0, 1; -12: an ANSWER that didn't come");
        int[][] due = {{0, 1}, {3, 0}};
        for (int i = 0; i < 2; i++) for (int w = 0; w < 2; w++) due("answered(" + i + ", " + w + ")", x.answered(i, w), due[i][w]);
        for (int w : new int[] {-1, 2, LOW, HIGH}) due("answered(0, " + w + ")", x.answered(0, w), BAD);
        for (int i : new int[] {-1, 2, 8, LOW, HIGH}) due("answered(" + i + ", 0)", x.answered(i, 0), OUTSIDE);
        none.begin(0);
        due("answered(0, 0), none came", none.answered(0, 0), OUTSIDE);

        at("16: now: what 0, 1, 10 .. 17, 20 .. 27, an ITEM that is, part 0, 1");
        for (int w : new int[] {0, 1, 10, 13, 20, 23}) {
            due("now(" + w + ", 1) is a number", x.now(w, 1) > 0 ? 1 : 0, 1);
            for (int p : new int[] {-1, 2, LOW, HIGH}) due("now(" + w + ", " + p + ")", x.now(w, p), NO);
        }
        for (int w : new int[] {-1, 2, 9, 14, 17, 18, 19, 24, 27, 28, LOW, HIGH}) due("now(" + w + ", 0)", x.now(w, 0), NO);
        ShadowTester all = fresh(0, 0, 4, 1, 0, 0, 4, 1, 0, 0, 4, 1, 0, 0, 4, 1, 0, 0, 4, 1, 0, 0, 4, 1, 0, 0, 4, 1, 5, 0, 4, 1);
        due("now(17, 0), of eight", all.now(17, 0), 0);
        due("now(27, 1), of eight", all.now(27, 1), 2);
        for (int w : new int[] {9, 18, 19, 28}) due("now(" + w + ", 0), of eight", all.now(w, 0), NO);
        for (int w : new int[] {10, 20}) due("now(" + w + ", 0), of none", none.now(w, 0), NO);

        at("18: would: right 1, 0, part 0, 1, an ITEM that is");
        for (int v : new int[] {-1, 2, LOW, HIGH}) {
            due("would(0, " + v + ", 0)", x.would(0, v, 0), NO);
            due("would(0, 1, " + v + ")", x.would(0, 1, v), NO);
        }
        for (int i : new int[] {-1, 4, LOW, HIGH}) due("would(" + i + ", 1, 0)", x.would(i, 1, 0), NO);

        at("18: whatever may be asked, also without a TEST");
        ShadowTester y = four();
        priors(y, 4, 0, 0, 0, 0, 0, 0, 0, 2);
        // HEIGHT 1, right: 24 and 30: 240 over 54; it is told also once it was asked, HELD BACK, or MOST were
        due("would(0, 1, 0), no TEST", y.would(0, 1, 0), 40);
        due("would(0, 1, 1), no TEST", y.would(0, 1, 1), 9);
        y.ease(0, 0);
        y.quota(0, 0, 0);
        y.begin(0);
        due("answer(0, 1)", y.answer(0, 1), STATE);
        due("would(0, 1, 0), HELD BACK, and MOST were", y.would(0, 1, 0), 40);
        y.end();
        y.ease(0, 10);
        y.quota(0, 0, 8);
        y.begin(0);
        y.answer(0, 1);
        // 4 and 5, by 6 and 15: 24 and 75: 600 over 99
        due("would(0, 1, 0), asked", y.would(0, 1, 0), 200);
        due("would(0, 1, 1), asked", y.would(0, 1, 1), 33);
    }

    static void whatsOfCounts() {
        at("29: count: what 0 .. 9, 10 .. 12, 20 .. 22, 30 .. 34");
        ShadowTester x = inTest();
        int[] some = {0, 4, 1, 1, 2, 2, 3, 1, 4, 0, 5, 1, 6, 1, 7, 0, 8, 4, 9, 0, 10, 0, 12, 0, 20, 8, 22, 8, 30, 0, 34, 0};
        for (int i = 0; i < some.length; i += 2) due("count(" + some[i] + ")", x.count(some[i]), some[i + 1]);
        for (int w : new int[] {-1, 13, 19, 23, 29, 35, LOW, HIGH}) due("count(" + w + ")", x.count(w), BAD);

        at("29: ANSWERS, those to ITEMS of an AREA (0: no TEST is on)");
        x.end();
        for (int w = 2; w <= 6; w++) due("count(" + w + ")", x.count(w), 0);

        at("23: drawn: what 0, 1; 24: chance: part 0, 1");
        ShadowTester y = inTest();
        for (int v : new int[] {-1, 2, LOW, HIGH}) {
            due("drawn(0, 0, " + v + ")", y.drawn(0, 0, v), BAD);
            due("chance(0, 0, 1, " + v + ")", y.chance(0, 0, 1, v), BAD);
        }

        at("25: tells: what 0, 1, 10 .. 17, an ITEM that is");
        sheetOf(y, 0, 0, 1);
        for (int w : new int[] {-1, 2, 9, 14, 17, 18, LOW, HIGH}) due("tells(0, " + w + ", 0)", y.tells(0, w, 0), BAD);
        for (int g : new int[] {-1, 9, LOW, HIGH}) due("tells(0, 0, " + g + "), LEVEL is of KINDS alone", y.tells(0, 0, g), 5);

        at("26: film: TELLS by LEVELS 0 .. 8 (ints): all, together");
        ShadowTester z = fresh(4, 0, 8, 1, 5, 0, 0, 1);
        due("film(0, 0)", z.film(0, 0), 7 * 6 + 14 + 19 + 24);
        for (int g = 0; g < 6; g++) due("item " + g, read(z, 0, 1, g), 7);
        for (int g = 6; g < 9; g++) due("item " + g, read(z, 0, 1, g), BAD);
        due("put(0, 8, 1)", z.put(0, 8, 1), 1);
        due("put(0, 9, 1)", z.put(0, 9, 1), OUTSIDE);
        for (int n : new int[] {0, 9, 40}) {
            z.sheet(1, 0, n);
            due("film(1, 0) of a row of " + n + " bytes", z.film(1, 0), 99);
            due("load(1, 1, 0, 0), it is of ints", z.load(1, 1, 0, 0), 0);
            due("put(1, 8, 1)", z.put(1, 8, 1), 1);
            due("put(1, 9, 1)", z.put(1, 9, 1), OUTSIDE);
        }
        due("film(0, 1), the least", z.film(0, 1), 0);
        due("item 8", read(z, 0, 1, 8), 0);
        for (int s : new int[] {-1, 4, LOW, HIGH}) due("film(" + s + ", 0)", z.film(s, 0), BAD);
        for (int i : new int[] {-1, 2, LOW, HIGH}) due("film(0, " + i + ")", z.film(0, i), BAD);
    }

    // ---- refusals

    /** All that can be seen of an object; it is used up by that. */
    static String seen(ShadowTester x) {
        StringBuilder s = new StringBuilder(look(x));
        s.append("image ").append(x.back()).append(' ');
        settings(x, s);
        for (int i = 0; i < 4; i++) s.append(read(x, 1, 1, i)).append(' ').append(x.put(1, i, 0)).append(' ');
        return s.toString();
    }

    /** All that can be seen of an object as it is, but for its IMAGE and what its rows hold. */
    static String look(ShadowTester x) {
        StringBuilder s = new StringBuilder();
        settings(x, s);
        for (int i = 0; i < 8; i++) for (int w = 0; w < 2; w++) s.append(x.answered(i, w)).append(' ');
        for (int g = 0; g < 9; g++) s.append(x.weight(g)).append(' ');
        for (int w : new int[] {0, 1, 10, 13, 20, 23}) for (int p = 0; p < 2; p++) s.append(x.now(w, p)).append(' ');
        s.append(x.mode()).append(' ').append(x.shadow()).append(' ').append(x.next()).append(' ').append(x.stops()).append(' ');
        for (int r = 0; r < 5; r++) s.append(x.says(r)).append(' ');
        for (int w = 0; w < 2; w++) s.append(x.drawn(3, 4, w)).append(' ').append(x.chance(3, 4, 7, w)).append(' ');
        for (int i = 0; i < 3; i++) {
            for (int sort = 0; sort < 2; sort++) s.append(x.load(i, sort, 0, 0)).append(' ');
            for (int w : new int[] {0, 1, 10}) s.append(x.tells(i, w, 0)).append(' ');
        }
        s.append(x.end()).append(' ').append(x.weight(0)).append(' ').append(x.weight(3)).append(' ').append(x.begin(3)).append(' ');
        return s.toString();
    }

    static void changeAll(ShadowTester x) {
        for (int i = 0; i < 8; i++) x.answer(i, 1);
        x.end();
        for (int g = 0; g < 9; g++) x.prior(g, 7 * g + 2);
        for (int a = 0; a < 3; a++) x.quota(a, a, 5 + a);
        for (int i = 0; i < 8; i++) x.item(5 - i % 6, 2 - i % 3, i, 3);
        for (int i = 0; i < 8; i++) x.ease(i, 10 - i);
        x.set(0, 2);
        x.set(1, 3);
        for (int r = 10; r < 15; r++) x.set(r, 90 - r);
        x.rules(20);
        x.begin(77);
        for (int i = 7; i >= 0; i--) x.answer(i, i % 2);
    }

    static void settings(ShadowTester x, StringBuilder s) {
        for (int w = 0; w < 35; w++) if (w < 13 || w > 19 && w < 23 || w > 29) s.append(x.count(w)).append(' ');
        for (int i = 0; i < 8; i++) for (int w : new int[] {2, 4, 5, 6, 7}) s.append(x.told(i, w)).append(' ');
        s.append('|');
    }

    /** A new one, one that has all but a TEST, one in a TEST, a full one in a TEST. */
    static ShadowTester state(int which) {
        ShadowTester x = new ShadowTester();
        if (which == 0) return x;
        for (int i = 0; i < 6; i++) x.item(i, i % 3, i, 1 + i % 3);
        for (int g = 0; g < 9; g++) x.prior(g, g == 3 ? MOST_PRIOR : 0);
        x.prior(3, 5);
        x.quota(2, 1, 2);
        x.set(1, 1);
        x.rules(3);
        for (int r = 10; r < 15; r++) x.set(r, 2 + r);
        sheetOf(x, 0, 0, 1, 0, 1);
        sheetOf(x, 1, 1, 0, 7, 2, 8);
        x.image();
        x.set(0, 5);
        if (which == 1) return x;
        x.begin(9);
        x.set(1, 0);
        x.ease(1, 0);
        for (int i = 0; i < 3; i++) x.answer(i, i % 2);
        if (which == 2) return x;
        x.item(0, 0, 8, 1);
        x.item(3, 1, 0, 3);
        return x;
    }

    static final boolean[] IN_ALL = {true, true, true, true}, IDLE = {true, true, false, false}, ON = {false, false, true, true},
        MADE = {false, true, true, true}, FULL_ALONE = {false, false, false, true};

    /** What a call is refused by in these states; an object that was refused can't be told from one that never was. */
    static void refused(boolean[] where, String call, long want, ToLongFunction<ShadowTester> calling) {
        for (int which = 0; which < 4; which++) {
            if (!where[which]) continue;
            ShadowTester x = state(which);
            due(call + " in state " + which, calling.applyAsLong(x), want);
            due(call + " in state " + which + ", it changes nothing (1)", seen(x).equals(seen(state(which))) ? 1 : 0, 1);
        }
    }

    static void refusals() {
        at("1: Refusals, the first that the call's words name; they change nothing: of levels, areas, items");
        refused(IN_ALL, "prior(9, 1)", BAD, x -> x.prior(9, 1));
        refused(IN_ALL, "prior(0, -1)", BAD, x -> x.prior(0, -1));
        refused(MADE, "prior(3, 0)", STATE, x -> x.prior(3, 0));
        refused(MADE, "prior(9, 0), ahead of all 0", BAD, x -> x.prior(9, 0));
        refused(IN_ALL, "quota(3, 1, 1)", BAD, x -> x.quota(3, 1, 1));
        refused(IN_ALL, "quota(0, 5, 4)", BAD, x -> x.quota(0, 5, 4));
        refused(IN_ALL, "quota(0, 4, 9)", BAD, x -> x.quota(0, 4, 9));
        refused(IN_ALL, "item(6, 0, 0, 1)", BAD, x -> x.item(6, 0, 0, 1));
        refused(FULL_ALONE, "item(0, 0, 0, 1)", FULL, x -> x.item(0, 0, 0, 1));
        refused(FULL_ALONE, "item(0, 0, 0, 4), ahead of FULL", BAD, x -> x.item(0, 0, 0, 4));
        refused(IN_ALL, "ease(8, 1)", BAD, x -> x.ease(8, 1));
        refused(IN_ALL, "ease(0, 11)", BAD, x -> x.ease(0, 11));
        refused(IN_ALL, "set(0, 0)", BAD, x -> x.set(0, 0));
        refused(IN_ALL, "set(1, 10)", BAD, x -> x.set(1, 10));
        refused(IN_ALL, "set(10, 100)", BAD, x -> x.set(10, 100));
        refused(IN_ALL, "set(2, 1)", BAD, x -> x.set(2, 1));
        refused(IN_ALL, "rules(32)", BAD, x -> x.rules(32));
        refused(IN_ALL, "told(8, 0)", BAD, x -> x.told(8, 0));
        refused(IN_ALL, "by(0, 9, 0)", BAD, x -> x.by(0, 9, 0));
        refused(MADE, "taken(0, 5)", UNLIKE, x -> x.taken(0, 5));
        refused(IN_ALL, "taken(9, 5), ahead of another KIND", BAD, x -> x.taken(9, 5));
        refused(IN_ALL, "taken(0, 6), ahead of another KIND", BAD, x -> x.taken(0, 6));

        at("1: Refusals: of tests, of what to ask, by seeds");
        refused(ON, "begin(1)", STATE, x -> x.begin(1));
        refused(IDLE, "end()", STATE, x -> x.end());
        refused(IDLE, "answer(9, 1), ahead of no TEST", BAD, x -> x.answer(9, 1));
        refused(IDLE, "answer(0, 2), ahead of no TEST", BAD, x -> x.answer(0, 2));
        refused(ON, "answer(0, 2), ahead of asked", BAD, x -> x.answer(0, 2));
        refused(ON, "answer(0, 1), asked", STATE, x -> x.answer(0, 1));
        refused(FULL_ALONE, "answer(7, 1), HELD BACK", STATE, x -> x.answer(7, 1));
        refused(IDLE, "answered(0, 2), ahead of no TEST", BAD, x -> x.answered(0, 2));
        refused(IDLE, "answered(9, 0), no TEST ahead of outside", STATE, x -> x.answered(9, 0));
        refused(ON, "answered(9, 2), ahead of outside", BAD, x -> x.answered(9, 2));
        refused(ON, "answered(3, 0)", OUTSIDE, x -> x.answered(3, 0));
        refused(IN_ALL, "weight(9)", NO, x -> x.weight(9));
        refused(IN_ALL, "now(2, 0)", NO, x -> x.now(2, 0));
        refused(IN_ALL, "would(0, 2, 0)", NO, x -> x.would(0, 2, 0));
        refused(IN_ALL, "would(9, 1, 0)", NO, x -> x.would(9, 1, 0));
        refused(IDLE, "shadow()", STATE, x -> x.shadow());
        refused(IDLE, "next()", STATE, x -> x.next());
        refused(IDLE, "stops()", STATE, x -> x.stops());
        refused(IDLE, "says(5), ahead of no TEST", BAD, x -> x.says(5));
        refused(IDLE, "says(4)", STATE, x -> x.says(4));
        refused(IDLE, "drawn(1, 9, 0), ahead of no TEST", BAD, x -> x.drawn(1, 9, 0));
        refused(IDLE, "drawn(1, 8, 0)", STATE, x -> x.drawn(1, 8, 0));
        refused(IDLE, "chance(1, 8, 11, 0), ahead of no TEST", BAD, x -> x.chance(1, 8, 11, 0));
        refused(IDLE, "chance(1, 8, 10, 0)", STATE, x -> x.chance(1, 8, 10, 0));
    }

    static void refusalsOfSheets() {
        at("1: Refusals: of what was told, of the host");
        boolean[] fresh = {true, false, false, false};
        refused(fresh, "back()", STATE, x -> x.back());
        refused(IN_ALL, "count(35)", BAD, x -> x.count(35));
        refused(IN_ALL, "tells(2, 2, 0), ahead of missing", BAD, x -> x.tells(2, 2, 0));
        refused(IN_ALL, "tells(4, 0, 0)", BAD, x -> x.tells(4, 0, 0));
        refused(IN_ALL, "tells(2, 18, 0), ahead of missing", BAD, x -> x.tells(2, 18, 0));
        refused(MADE, "tells(2, 10, 9), ahead of missing", BAD, x -> x.tells(2, 10, 9));
        refused(IN_ALL, "tells(2, 0, 0)", MISSING, x -> x.tells(2, 0, 0));
        refused(MADE, "tells(1, 0, 0)", BAD, x -> x.tells(1, 0, 0));
        refused(IN_ALL, "film(4, 0)", BAD, x -> x.film(4, 0));
        refused(IN_ALL, "film(1, 8)", BAD, x -> x.film(1, 8));
        refused(IN_ALL, "sheet(4, 1, -1), ahead of a size", BAD, x -> x.sheet(4, 1, -1));
        refused(IN_ALL, "sheet(1, 2, -1), ahead of a size", BAD, x -> x.sheet(1, 2, -1));
        refused(IN_ALL, "sheet(1, 1, 41)", BAD, x -> x.sheet(1, 1, 41));
        refused(IN_ALL, "sheet(1, 1, -1)", BELOW, x -> x.sheet(1, 1, -1));
        refused(IN_ALL, "put(4, -1, 1), ahead of outside", BAD, x -> x.put(4, -1, 1));
        refused(IN_ALL, "put(2, -1, 1), ahead of outside", MISSING, x -> x.put(2, -1, 1));
        refused(MADE, "put(1, 4, 1)", OUTSIDE, x -> x.put(1, 4, 1));
        refused(IN_ALL, "copy(2, 0, 4, 0, 1), ahead of missing", BAD, x -> x.copy(2, 0, 4, 0, 1));
        refused(IN_ALL, "copy(1, -1, 2, 0, 1), ahead of outside", MISSING, x -> x.copy(1, -1, 2, 0, 1));
        refused(IN_ALL, "copy(2, -1, 1, 0, 1), ahead of outside", MISSING, x -> x.copy(2, -1, 1, 0, 1));
        refused(MADE, "copy(0, -1, 1, 0, -1), ahead of outside", UNLIKE, x -> x.copy(0, -1, 1, 0, -1));
        refused(MADE, "copy(1, 1, 1, 0, 4)", OUTSIDE, x -> x.copy(1, 1, 1, 0, 4));
        refused(MADE, "copy(1, 0, 1, 1, 4)", OUTSIDE, x -> x.copy(1, 0, 1, 1, 4));
        refused(IN_ALL, "load(1, 2, 0, 1)", BAD, x -> x.load(1, 2, 0, 1));
        refused(IN_ALL, "load(4, 1, 0, 1)", BAD, x -> x.load(4, 1, 0, 1));
        refused(MADE, "load(1, 0, 0, 9), ahead of unlike", BAD, x -> x.load(1, 0, 0, 9));
        refused(MADE, "load(1, 0, -1, 1), ahead of outside", UNLIKE, x -> x.load(1, 0, -1, 1));
        refused(IN_ALL, "load(2, 0, -1, 1), ahead of outside", MISSING, x -> x.load(2, 0, -1, 1));
        refused(IN_ALL, "load(2, 1, 0, -1), ahead of missing", BAD, x -> x.load(2, 1, 0, -1));
        refused(MADE, "load(1, 1, 1, 1), none ahead", OUTSIDE, x -> x.load(1, 1, 1, 1));

        at("22: STATE ahead of GREAT; 16: NO");
        ShadowTester x = four();
        for (int g = 0; g < 9; g++) x.prior(g, MOST_PRIOR - g);
        due("now(1, 0) is GREAT", x.now(1, 0), NO);
        due("says(2), no TEST", x.says(2), STATE);
        x.begin(0);
        due("says(2)", x.says(2), GREAT);
    }

    static void lastCalls() {
        at("An object is used for at most 512 calls: TESTEES and GIVEN as great as they become");
        ShadowTester x = fresh(0, 0, 4, 1);
        x.ease(0, 10);
        for (int k = 1; k <= 168; k++) {
            if (x.begin(k) != 0 || x.answer(0, k % 2) != 1 || x.end() != 1) due("round " + k, 0, 1);
        }
        due("told(0, 5)", x.told(0, 5), 168);
        due("count(1)", x.count(1), 168);
        x.ease(0, 9);
        due("begin, 1690 above 9 times 169", x.begin(0), 1);

        at("An object is used for at most 512 calls: the 512th");
        ShadowTester y = new ShadowTester();
        for (int k = 1; k <= 255; k++) if (y.begin(k) != 0 || y.end() != 0) due("round " + k, 0, 1);
        due("begin, the 511th", y.begin(0), 0);
        due("count(1), the 512th", y.count(1), 256);
    }

    public static void main(String[] args) {
        levels();
        priorsOfLevels();
        areas();
        items();
        rightOfKinds();
        tellsOfKinds();
        greatAll();
        greatFractions();
        greatNext();
        greatRules();
        greatWould();
        fractions();
        tests();
        modes();
        lots();
        heldBack();
        spans();
        shadows();
        rulesOfBounds();
        poor();
        clear();
        stopping();
        asked();
        draws();
        chances();
        tellings();
        images();
        sheets();
        puts();
        copies();
        loads();
        whats();
        whatsOfTests();
        whatsOfCounts();
        refusals();
        refusalsOfSheets();
        lastCalls();
        close("sentences of boundaries");
    }
}
