/** Promise by promise: ordinary calls, the edges that the document names, and wrong ones; what is due was made by hand. */
public final class PromiseTest extends Bench {
    // 1: a new object
    static void newObject() {
        ShadowTester x = new ShadowTester();
        int[] none = {0, 1, 2, 3, 4, 5, 6, 7, 9, 10, 11, 12, 30, 31, 32, 33, 34};
        for (int what : none) due("count(" + what + ")", x.count(what), 0);
        due("count(8)", x.count(8), 4);
        for (int a = 0; a < 3; a++) due("count(" + (20 + a) + ")", x.count(20 + a), 8);
        for (int g = 0; g < 9; g++) due("weight(" + g + ")", x.weight(g), 1);
        for (int s = 0; s < 4; s++) due("put(" + s + ", 0, 0)", x.put(s, 0, 0), MISSING);
        due("back()", x.back(), STATE);
        due("end()", x.end(), STATE);
        due("told(0, 0)", x.told(0, 0), BAD);
        ShadowTester y = new ShadowTester();
        x.item(0, 0, 0, 1);
        due("count(0) of another", y.count(0), 0);
    }

    // 2: prior
    static void prior() {
        ShadowTester x = new ShadowTester();
        due("prior(0, 7)", x.prior(0, 7), 1);
        due("prior(0, 2000000000)", x.prior(0, 2000000000), 7);
        due("prior(8, 0)", x.prior(8, 0), 1);
        due("prior(8, 5)", x.prior(8, 5), 0);
        int[][] bad = {{-1, 1}, {9, 1}, {LOW, 1}, {HIGH, 1}, {0, -1}, {0, 2000000001}, {0, LOW}, {9, -1}};
        for (int[] b : bad) due("prior(" + b[0] + ", " + b[1] + ")", x.prior(b[0], b[1]), BAD);
        due("weight(0)", x.weight(0), 2000000000);
        for (int g = 1; g < 9; g++) x.prior(g, 0);
        due("prior(0, 0), the last one", x.prior(0, 0), STATE);
        due("weight(0), unchanged", x.weight(0), 2000000000);
        due("prior(3, 0), it is 0", x.prior(3, 0), 0);
        due("prior(3, 4)", x.prior(3, 4), 0);
        due("prior(0, 0), another one stands", x.prior(0, 0), 2000000000);
        due("weight(3), not divided", x.weight(3), 4);
        x.begin(1);
        due("weight(3), divided", x.weight(3), 1);
        due("prior(0, 6) in a test", x.prior(0, 6), 0);
        due("weight(0), as it began", x.weight(0), 0);
        x.end();
        due("weight(0), over", x.weight(0), 6);
    }

    // 3: quota
    static void quota() {
        ShadowTester x = new ShadowTester();
        due("quota(0, 1, 3)", x.quota(0, 1, 3), 8);
        due("quota(0, 8, 8)", x.quota(0, 8, 8), 13);
        due("quota(0, 0, 0)", x.quota(0, 0, 0), 88);
        due("quota(2, 2, 2)", x.quota(2, 2, 2), 8);
        due("quota(1, 0, 8)", x.quota(1, 0, 8), 8);
        int[][] bad = {{-1, 0, 0}, {3, 0, 0}, {LOW, 0, 0}, {HIGH, 0, 0}, {0, -1, 0}, {0, 0, 9}, {0, 9, 9}, {0, -1, -1}, {2, 3, 2},
            {0, 0, HIGH}, {0, LOW, 3}};
        for (int[] b : bad) due("quota(" + b[0] + ", " + b[1] + ", " + b[2] + ")", x.quota(b[0], b[1], b[2]), BAD);
        due("count(12)", x.count(12), 2);
        due("count(22)", x.count(22), 2);
        due("count(10)", x.count(10), 0);
        due("count(20)", x.count(20), 0);
    }

    // 4: item
    static void item() {
        ShadowTester x = new ShadowTester();
        int[][] bad = {{-1, 0, 0, 1}, {6, 0, 0, 1}, {0, -1, 0, 1}, {0, 3, 0, 1}, {0, 0, -1, 1}, {0, 0, 9, 1}, {0, 0, 0, 0}, {0, 0, 0, 4},
            {HIGH, 0, 0, 1}, {LOW, 0, 0, 1}, {0, HIGH, 0, 1}, {0, 0, HIGH, 1}, {0, 0, 0, HIGH}, {0, 0, 0, LOW}};
        for (int[] b : bad) due("a bad item", x.item(b[0], b[1], b[2], b[3]), BAD);
        due("count(0)", x.count(0), 0);
        due("item(0, 0, 0, 1)", x.item(0, 0, 0, 1), 0);
        due("item(5, 2, 8, 3)", x.item(5, 2, 8, 3), 1);
        for (int i = 2; i < 8; i++) due("item " + i, x.item(i % 6, i % 3, i, 2), i);
        due("the ninth", x.item(0, 0, 0, 1), FULL);
        due("a bad ninth", x.item(0, 0, 0, 4), BAD);
        due("count(0)", x.count(0), 8);
        due("told(1, 2)", x.told(1, 2), 8);
    }

    // 5: ease
    static void ease() {
        ShadowTester x = four();
        due("ease(3, 0)", x.ease(3, 0), 10);
        due("ease(3, 4)", x.ease(3, 4), 0);
        due("told(3, 4)", x.told(3, 4), 4);
        due("told(2, 4)", x.told(2, 4), 10);
        due("ease(3, 10)", x.ease(3, 10), 4);
        int[][] bad = {{4, 1}, {-1, 1}, {LOW, 1}, {HIGH, 1}, {0, -1}, {0, 11}, {0, HIGH}};
        for (int[] b : bad) due("ease(" + b[0] + ", " + b[1] + ")", x.ease(b[0], b[1]), BAD);
        due("told(0, 4)", x.told(0, 4), 10);
    }

    // 6: set
    static void set() {
        ShadowTester x = new ShadowTester();
        due("set(0, 1)", x.set(0, 1), 4);
        due("set(0, 8)", x.set(0, 8), 1);
        due("set(1, 9)", x.set(1, 9), 0);
        due("set(1, 0)", x.set(1, 0), 9);
        for (int r = 0; r < 5; r++) {
            due("set(" + (10 + r) + ", 99)", x.set(10 + r, 99), 0);
            due("set(" + (10 + r) + ", r)", x.set(10 + r, r), 99);
        }
        for (int r = 0; r < 5; r++) due("count(" + (30 + r) + ")", x.count(30 + r), r);
        int[][] bad = {{0, 0}, {0, 9}, {1, -1}, {1, 10}, {2, 1}, {9, 1}, {15, 1}, {-1, 1}, {10, -1}, {10, 100}, {14, 100}, {LOW, 1}, {HIGH, 1},
            {0, LOW}, {10, HIGH}};
        for (int[] b : bad) due("set(" + b[0] + ", " + b[1] + ")", x.set(b[0], b[1]), BAD);
        due("count(8)", x.count(8), 8);
        due("count(9)", x.count(9), 0);
    }

    // 7: rules
    static void rules() {
        ShadowTester x = new ShadowTester();
        due("rules(31)", x.rules(31), 0);
        due("rules(5)", x.rules(5), 31);
        for (int b : new int[] {-1, 32, LOW, HIGH}) due("rules(" + b + ")", x.rules(b), BAD);
        due("rules(0)", x.rules(0), 5);
        due("count(7)", x.count(7), 0);
    }

    // 8: told
    static void told() {
        ShadowTester x = fresh(3, 2, 7, 2);
        int[] due = {3, 2, 7, 2, 10, 0, 0, NONE};
        for (int w = 0; w < 8; w++) due("told(0, " + w + ")", x.told(0, w), due[w]);
        for (int w : new int[] {-1, 8, LOW, HIGH}) due("told(0, " + w + ")", x.told(0, w), BAD);
        for (int i : new int[] {-1, 1, LOW, HIGH}) due("told(" + i + ", 0)", x.told(i, 0), BAD);
        x.begin(1);
        due("told(0, 6), not held back", x.told(0, 6), 0);
        due("item in a test", x.item(0, 0, 0, 1), 1);
        due("told(1, 6), it came in a test", x.told(1, 6), 1);
        due("told(0, 7)", x.told(0, 7), NONE);
        x.answer(0, 0);
        due("told(0, 7), wrong", x.told(0, 7), 0);
        due("told(0, 5), given", x.told(0, 5), 1);
        x.end();
        due("told(0, 7), over", x.told(0, 7), NONE);
        due("told(1, 6), over", x.told(1, 6), 0);
        due("told(0, 5), over", x.told(0, 5), 1);
        x.begin(1);
        due("told(0, 7), anew", x.told(0, 7), NONE);
        x.answer(0, 1);
        due("told(0, 7), right", x.told(0, 7), 1);
        due("told(0, 5), given twice", x.told(0, 5), 2);
    }

    // 9: by
    static void by() {
        // height 4, slope 1: a PLAIN has 1 (from 0), 2, 4, 6, 8, 10, 12, 14, 15 (from 16)
        int[][] right = {{1, 2, 4, 6, 8, 10, 12, 14, 15}, {4, 4, 4, 6, 8, 10, 12, 14, 15}, {1, 2, 4, 6, 8, 10, 12, 12, 12},
            {4, 4, 4, 6, 8, 10, 12, 12, 12}, {1, 1, 2, 3, 4, 5, 6, 6, 6}, {8, 8, 8, 8, 8, 8, 8, 8, 8}};
        int[][] tells = {{15, 28, 48, 60, 64, 60, 48, 28, 15}, {8, 8, 8, 20, 24, 20, 8, 0, 0}, {15, 28, 48, 60, 64, 60, 48, 48, 48},
            {18, 18, 18, 30, 34, 30, 18, 18, 18}, {7, 7, 14, 19, 24, 27, 30, 30, 30}, {0, 0, 0, 0, 0, 0, 0, 0, 0}};
        ShadowTester x = fresh(0, 0, 4, 1, 1, 0, 4, 1, 2, 0, 4, 1, 3, 0, 4, 1, 4, 0, 4, 1, 5, 0, 4, 1, 0, 0, 4, 3, 4, 0, 4, 3);
        for (int k = 0; k < 6; k++) {
            for (int g = 0; g < 9; g++) {
                due("by(" + k + ", " + g + ", 0)", x.by(k, g, 0), right[k][g]);
                due("by(" + k + ", " + g + ", 1)", x.by(k, g, 1), tells[k][g]);
            }
        }
        due("slope 3: by(6, 5, 0)", x.by(6, 5, 0), 14);
        due("slope 3: by(6, 5, 1)", x.by(6, 5, 1), 9 * 14 * 2);
        due("slope 3: by(6, 3, 0)", x.by(6, 3, 0), 2);
        due("slope 3: by(7, 4, 1)", x.by(7, 4, 1), 9 * 4 * 12 / 2);
        int[][] bad = {{8, 0, 0}, {-1, 0, 0}, {0, -1, 0}, {0, 9, 0}, {0, 0, -1}, {0, 0, 2}, {LOW, 0, 0}, {0, HIGH, 0}, {0, 0, LOW}};
        for (int[] b : bad) due("by(" + b[0] + ", " + b[1] + ", " + b[2] + ")", x.by(b[0], b[1], b[2]), BAD);
    }

    // 10: taken
    static void taken() {
        int[][] above = {{0}, {0, 1}, {0, 2}, {0, 1, 3}, {0, 2, 4}, {0, 5}};
        ShadowTester x = fresh(0, 0, 1, 1, 1, 0, 2, 1, 2, 0, 3, 1, 3, 0, 4, 1, 4, 0, 5, 1, 5, 0, 6, 1);
        for (int kind = 0; kind < 6; kind++) {
            for (int k = 0; k < 6; k++) {
                boolean is = false;
                for (int a : above[kind]) is |= a == k;
                due("taken(" + kind + ", " + k + ")", x.taken(kind, k), is ? kind + 1 : UNLIKE);
            }
        }
        int[][] bad = {{6, 0}, {-1, 0}, {0, -1}, {0, 6}, {HIGH, 0}, {0, LOW}, {0, HIGH}};
        for (int[] b : bad) due("taken(" + b[0] + ", " + b[1] + ")", x.taken(b[0], b[1]), BAD);
    }

    static int lot(int seed, int item) {
        int z = seed;
        for (int i = 0; i <= item; i++) z = z * 1103515245 + 12345;
        return (z >>> 9) % 10;
    }

    // 11: begin
    static void begin() {
        ShadowTester x = four();
        due("begin(0)", x.begin(0), 0);
        due("begin(0), one is on", x.begin(0), STATE);
        due("count(1)", x.count(1), 1);
        due("count(6)", x.count(6), 1);
        x.answer(0, 1);
        x.end();
        x.ease(0, 9);
        due("begin, 10 times (1 and 1) is above 9 times 2", x.begin(0), 1);
        due("told(0, 6)", x.told(0, 6), 1);
        due("told(1, 6)", x.told(1, 6), 0);
        due("answer(0, 1), held back", x.answer(0, 1), STATE);
        x.end();
        due("begin, it isn't above 9 times 3", x.begin(0), 0);
        x.end();
        x.ease(1, 0);
        due("begin, EASE 0", x.begin(5), 1);
        due("ease(1, 10) in a test", x.ease(1, 10), 0);
        due("told(1, 6), as it began", x.told(1, 6), 1);
        x.end();
        // EASE 10, given once of one: 10 times 2 isn't above 10 times 2
        ShadowTester y = fresh(0, 0, 1, 1);
        y.begin(0);
        y.answer(0, 1);
        y.end();
        due("begin, like isn't above", y.begin(0), 0);
        // lots: ITEM 0 has 24 % 10 by SEED 0: z is 12345, 12345 >>> 9 is 24
        for (int seed : new int[] {0, 1, -1, 77, HIGH, LOW, -123456789}) {
            for (int caution = 0; caution < 10; caution++) {
                ShadowTester l = four();
                l.set(1, caution);
                int held = 0;
                for (int i = 0; i < 4; i++) if (lot(seed, i) < caution) held++;
                due("begin(" + seed + ") by CAUTION " + caution, l.begin(seed), held);
                for (int i = 0; i < 4; i++) due("told(" + i + ", 6)", l.told(i, 6), lot(seed, i) < caution ? 1 : 0);
            }
        }
        ShadowTester l = fresh(0, 0, 0, 1);
        l.set(1, 4);
        due("LOT 4 isn't below CAUTION 4", l.begin(0), 0);
        l.end();
        l.set(1, 5);
        due("LOT 4 is below CAUTION 5", l.begin(0), 1);
        due("begin of no items", new ShadowTester().begin(3), 0);
    }

    // 12: answer
    static void answer() {
        ShadowTester x = four();
        due("answer(0, 1), none is on", x.answer(0, 1), STATE);
        due("answer(4, 1), none is on", x.answer(4, 1), BAD);
        x.begin(1);
        int[][] bad = {{4, 1}, {-1, 1}, {0, 2}, {0, -1}, {HIGH, 1}, {0, LOW}};
        for (int[] b : bad) due("answer(" + b[0] + ", " + b[1] + ")", x.answer(b[0], b[1]), BAD);
        x.quota(0, 0, 1);
        due("answer(1, 0)", x.answer(1, 0), 1);
        due("answer(1, 0), was asked", x.answer(1, 0), STATE);
        due("answer(0, 0), MOST of its area were", x.answer(0, 0), STATE);
        due("told(0, 5), not given", x.told(0, 5), 0);
        due("answer(2, 1)", x.answer(2, 1), 2);
        x.item(0, 2, 2, 2);
        due("answer(4, 1), it came in the test", x.answer(4, 1), STATE);
        x.quota(0, 0, 2);
        due("answer(0, 1)", x.answer(0, 1), 3);
        due("answer(3, 1), though SPAN were asked", x.set(0, 1) + x.answer(3, 1), 8);
        // height 1, slope 1: wrong: 16 less 6, 8, 10, 12, 14, 15 ...
        ShadowTester y = four();
        y.begin(1);
        y.answer(0, 0);
        int[] w = {10, 8, 6, 4, 2, 1, 1, 1, 1};
        for (int g = 0; g < 9; g++) due("weight(" + g + "), wrong", y.weight(g), w[g]);
        y.answer(1, 1);
        // times height 3's 2, 4, 6, 8, 10, 12, 14, 15, 15
        int[] v = {20, 32, 36, 32, 20, 12, 14, 15, 15};
        for (int g = 0; g < 9; g++) due("weight(" + g + "), and right", y.weight(g), v[g]);
        due("count(2)", y.count(2), 2);
    }

    // 13: end
    static void end() {
        ShadowTester x = four();
        due("end()", x.end(), STATE);
        x.prior(0, 4);
        x.prior(1, 6);
        x.begin(1);
        due("end(), no answers", x.end(), 0);
        x.begin(1);
        x.answer(3, 1);
        x.answer(2, 1);
        x.prior(2, 8);
        due("end()", x.end(), 2);
        due("end(), over", x.end(), STATE);
        due("weight(0)", x.weight(0), 4);
        due("weight(1)", x.weight(1), 6);
        due("weight(2)", x.weight(2), 8);
        due("count(2)", x.count(2), 0);
        due("count(3)", x.count(3), 0);
        due("count(6)", x.count(6), 0);
        x.begin(1);
        due("count(2), anew", x.count(2), 0);
        due("answer(3, 1), anew", x.answer(3, 1), 1);
    }

    // 14: answered
    static void answered() {
        ShadowTester x = four();
        due("answered(0, 0)", x.answered(0, 0), STATE);
        due("answered(0, 2)", x.answered(0, 2), BAD);
        x.begin(1);
        due("answered(0, 0), none yet", x.answered(0, 0), OUTSIDE);
        x.answer(3, 1);
        x.answer(1, 0);
        due("answered(0, 0)", x.answered(0, 0), 3);
        due("answered(0, 1)", x.answered(0, 1), 1);
        due("answered(1, 0)", x.answered(1, 0), 1);
        due("answered(1, 1)", x.answered(1, 1), 0);
        for (int i : new int[] {-1, 2, 8, LOW, HIGH}) due("answered(" + i + ", 0)", x.answered(i, 0), OUTSIDE);
        for (int w : new int[] {-1, 2, LOW, HIGH}) due("answered(9, " + w + ")", x.answered(9, w), BAD);
    }

    // 15: weight
    static void weight() {
        ShadowTester x = four();
        priors(x, 6, 0, 10, 0, 14, 0, 0, 0, 0);
        due("weight(4), not divided", x.weight(4), 14);
        x.begin(1);
        int[] w = {3, 0, 5, 0, 7, 0, 0, 0, 0};
        for (int g = 0; g < 9; g++) due("weight(" + g + ")", x.weight(g), w[g]);
        // height 1, right: 6, 10, 14: 18, 50, 98 by 2
        x.answer(0, 1);
        due("weight(0)", x.weight(0), 9);
        due("weight(2)", x.weight(2), 25);
        due("weight(4)", x.weight(4), 49);
        for (int g : new int[] {-1, 9, LOW, HIGH}) due("weight(" + g + ")", x.weight(g), NO);
    }

    // 16: now
    static void now() {
        ShadowTester x = four();
        due("MEAN above", x.now(0, 0), 4);
        due("MEAN below", x.now(0, 1), 1);
        due("SPREAD above", x.now(1, 0), 20);
        due("SPREAD below", x.now(1, 1), 3);
        priors(x, 4, 0, 0, 0, 0, 0, 0, 0, 2);
        due("MEAN above", x.now(0, 0), 8);
        due("MEAN below", x.now(0, 1), 3);
        // 128 times 6 less 16 times 16, over 36: 512 / 36
        due("SPREAD above", x.now(1, 0), 128);
        due("SPREAD below", x.now(1, 1), 9);
        // height 1, slope 1: RIGHT 6 and 15: TELLS 60 and 15: 270 / 6; LIKELY 54 / 96
        due("INFORMS above", x.now(10, 0), 45);
        due("INFORMS below", x.now(10, 1), 1);
        due("LIKELY above", x.now(20, 0), 9);
        due("LIKELY below", x.now(20, 1), 16);
        // height 7: RIGHT 1 and 10: TELLS 15 and 60: 180 / 6; LIKELY 24 / 96
        due("INFORMS of 3", x.now(13, 0), 30);
        due("LIKELY of 3", x.now(23, 0), 1);
        due("LIKELY of 3, below", x.now(23, 1), 4);
        priors(x, 5, 0, 0, 0, 0, 0, 0, 0, 0);
        due("MEAN 0 above", x.now(0, 0), 0);
        due("MEAN 0 below", x.now(0, 1), 1);
        due("SPREAD 0 above", x.now(1, 0), 0);
        due("SPREAD 0 below", x.now(1, 1), 1);
        for (int w : new int[] {-1, 2, 9, 14, 17, 18, 19, 24, 27, 28, LOW, HIGH}) due("now(" + w + ", 0)", x.now(w, 0), NO);
        for (int p : new int[] {-1, 2, LOW, HIGH}) for (int w : new int[] {0, 1, 10, 20}) due("now(" + w + ", " + p + ")", x.now(w, p), NO);
        // GREAT: 3037000499 times itself is a long, 3037000500 times itself is none
        ShadowTester y = fresh(5, 0, 0, 1);
        priors(y, 2000000000, 1037000499, 0, 0, 0, 0, 0, 0, 0);
        due("SPREAD, ALL is 3037000499", y.now(1, 0), 2000000000L * 1037000499L);
        due("SPREAD, ALL is 3037000499", y.now(1, 1), 3037000499L * 3037000499L);
        y.prior(1, 1037000500);
        due("SPREAD, ALL is 3037000500", y.now(1, 0), NO);
        due("SPREAD, ALL is 3037000500", y.now(1, 1), NO);
        due("MEAN above", y.now(0, 0), 2074001);
        due("MEAN below", y.now(0, 1), 6074001);
    }

    // 17: mode
    static void mode() {
        ShadowTester x = four();
        due("mode(), all are like", x.mode(), 0);
        x.prior(5, 3);
        due("mode()", x.mode(), 5);
        x.prior(8, 3);
        due("mode(), of like ones the least", x.mode(), 5);
        x.prior(8, 4);
        due("mode()", x.mode(), 8);
        x.begin(0);
        x.answer(0, 0);
        // 10, 8, 6, 4, 2, 3, 1, 1, 4
        due("mode(), behind an answer", x.mode(), 0);
    }

    // 18: would
    static void would() {
        ShadowTester x = four();
        priors(x, 4, 0, 0, 0, 0, 0, 0, 0, 2);
        // height 1: right 6, 15: 24, 30: 240 / 54
        due("would(0, 1, 0)", x.would(0, 1, 0), 40);
        due("would(0, 1, 1)", x.would(0, 1, 1), 9);
        // wrong 10, 1: 40, 2: 16 / 42
        due("would(0, 0, 0)", x.would(0, 0, 0), 8);
        due("would(0, 0, 1)", x.would(0, 0, 1), 21);
        due("weight(0), unchanged", x.weight(0), 4);
        x.begin(0);
        due("would(0, 0, 1) in a test", x.would(0, 0, 1), 21);
        x.answer(0, 0);
        due("weight(0)", x.weight(0), 20);
        // 20 times 10, 1 times 1: 8 / 201
        due("would(0, 0, 1), was asked", x.would(0, 0, 1), 201);
        x.item(0, 0, 1, 1);
        due("would(4, 0, 1), held back", x.would(4, 0, 1), 201);
        due("count(2), unchanged", x.count(2), 1);
        due("told(0, 5), unchanged", x.told(0, 5), 1);
        int[][] bad = {{5, 0, 0}, {-1, 0, 0}, {0, 2, 0}, {0, -1, 0}, {0, 0, 2}, {0, 0, -1}, {LOW, 0, 0}, {0, HIGH, 0}, {0, 0, HIGH}};
        for (int[] b : bad) due("would(" + b[0] + ", " + b[1] + ", " + b[2] + ")", x.would(b[0], b[1], b[2]), NO);
        // GREAT by a product: 1999999973 times 15 to the eighth is a long, times 15 once more is none
        ShadowTester y = new ShadowTester();
        priors(y, 1, 0, 0, 0, 0, 0, 0, 0, 1999999973);
        for (int i = 0; i < 8; i++) y.item(0, 0, 0, 1);
        y.begin(0);
        for (int i = 0; i < 8; i++) y.answer(i, 1);
        // level 0 has 8 each: no common divisor
        due("weight(0)", y.weight(0), 16777216);
        due("weight(8)", y.weight(8), 1999999973L * 2562890625L);
        due("would, 15 times", y.would(0, 1, 0), NO);
        due("would, 15 times", y.would(0, 1, 1), NO);
        due("would, but S is none", y.would(0, 0, 0), NO);
        // great by the product alone: level 0 goes into no S
        ShadowTester z = new ShadowTester();
        priors(z, 1999999973, 0, 0, 0, 0, 0, 0, 0, 1);
        for (int i = 0; i < 8; i++) z.item(0, 0, 8, 3);
        z.begin(0);
        for (int i = 0; i < 8; i++) z.answer(i, 0);
        due("MEAN above", z.now(0, 0), 8 * 16777216L);
        due("MEAN below", z.now(0, 1), 1999999973L * 2562890625L + 16777216L);
        due("would, 15 times", z.would(0, 0, 0), NO);
        due("would, 15 times", z.would(0, 0, 1), NO);
        due("would, right: 1 time and 8 times", z.would(0, 1, 0), 64 * 16777216L);
    }

    // 19: shadow
    static void shadow() {
        ShadowTester x = four();
        due("shadow(), none is on", x.shadow(), STATE);
        // by level 4 alone, INFORMS: 14 * 2, 10 * 6, 6 * 10, 2 * 14
        priors(x, 0, 0, 0, 0, 1, 0, 0, 0, 0);
        x.set(0, 2);
        x.begin(0);
        due("shadow()", x.shadow(), 2 + 4);
        x.set(0, 3);
        due("shadow(), of like ones the least", x.shadow(), 1 + 2 + 4);
        x.quota(2, 1, 8);
        due("shadow(), one of area 2", x.shadow(), 2 + 4 + 8);
        x.quota(1, 0, 0);
        due("shadow(), none of area 1", x.shadow(), 1 + 2 + 8);
        x.quota(0, 0, 1);
        due("shadow(), no way", x.shadow(), NO_WAY);
        x.quota(0, 3, 8);
        due("shadow(), more than there are", x.shadow(), NO_WAY);
        x.quota(0, 0, 8);
        x.quota(1, 0, 8);
        x.quota(2, 0, 8);
        x.answer(3, 1);
        due("shadow(), what was asked is in it", x.shadow(), 2 + 4 + 8);
        x.set(0, 1);
        due("shadow(), all of it asked", x.shadow(), 8);
        x.answer(0, 1);
        due("shadow(), more were asked than SPAN", x.shadow(), NO_WAY);
        x.set(0, 4);
        due("shadow(), all", x.shadow(), 15);
        x.set(0, 5);
        due("shadow(), too few", x.shadow(), NO_WAY);
        x.end();
        x.ease(1, 0);
        x.set(0, 2);
        x.begin(0);
        due("shadow(), 1 is held back", x.shadow(), 1 + 4);
        x.item(0, 0, 4, 3);
        due("shadow(), so is what came", x.shadow(), 1 + 4);
        due("shadow() of no items", shadowOfNone(), NO_WAY);
    }

    static int shadowOfNone() {
        ShadowTester x = new ShadowTester();
        x.begin(0);
        return x.shadow();
    }

    /** Six of eight were answered right: INFORMS of 6 (steep) is no long, of 7 (FLAT) it is 0. */
    static ShadowTester greatOne() {
        ShadowTester x = new ShadowTester();
        for (int g = 0; g < 9; g++) x.prior(g, 1999999973 - g);
        for (int i = 0; i < 6; i++) x.item(0, 0, 0, 3);
        x.item(0, 1, 8, 3);
        x.item(5, 2, 0, 1);
        x.set(0, 7);
        x.begin(0);
        for (int i = 0; i < 6; i++) x.answer(i, 1);
        return x;
    }

    static void greatShadow() {
        ShadowTester x = greatOne();
        due("now(16, 0) is great", x.now(16, 0), NO);
        due("shadow(), great", x.shadow(), GREAT);
        x.quota(1, 0, 0);
        due("shadow(), the great one is in no set", x.shadow(), 63 + 128);
        x.quota(1, 1, 1);
        due("shadow(), it is in each", x.shadow(), GREAT);
        x.set(0, 6);
        due("shadow(), it is in none", x.shadow(), NO_WAY);
        x.quota(1, 0, 8);
        due("shadow(), nothing is to be asked", x.shadow(), 63);
    }

    // 20: next
    static void next() {
        ShadowTester x = four();
        due("next(), none is on", x.next(), STATE);
        priors(x, 0, 0, 0, 0, 1, 0, 0, 0, 0);
        x.begin(0);
        due("next(), of like ones the least", x.next(), 1);
        x.answer(1, 0);
        due("next()", x.next(), 2);
        x.answer(2, 0);
        due("next()", x.next(), 0);
        x.set(0, 2);
        due("next(), all were asked", x.next(), NONE);
        x.set(0, 1);
        due("next(), no way", x.next(), NO_WAY);
        // not what informs most of all, but of the shadow
        x.set(0, 4);
        x.end();
        x.set(0, 1);
        x.quota(2, 1, 1);
        x.begin(0);
        due("next(), by the quota", x.next(), 3);
        ShadowTester y = greatOne();
        due("next(), great", y.next(), GREAT);
        y.quota(1, 0, 0);
        due("next(), the great one is in no set", y.next(), 7);
        y.set(0, 6);
        due("next(), none", y.next(), NONE);
    }

    // 21: stops
    static void stops() {
        ShadowTester x = four();
        due("stops(), none is on", x.stops(), STATE);
        x.set(0, 2);
        x.quota(2, 1, 8);
        x.rules(1);
        x.begin(0);
        due("stops(), never ahead of its quotas", x.stops(), 0);
        due("says(0)", x.says(0), 1);
        x.answer(3, 1);
        due("stops(), by a rule", x.stops(), 1);
        x.rules(0);
        due("stops(), by none", x.stops(), 0);
        x.set(10, 2);
        x.rules(1);
        due("stops(), it says no", x.stops(), 0);
        x.rules(0);
        x.answer(0, 1);
        due("stops(), by SPAN", x.stops(), 1);
        x.quota(0, 2, 2);
        due("stops(), SPAN were, LEAST weren't", x.stops(), 0);
        x.answer(1, 1);
        due("stops(), more than SPAN were", x.stops(), 1);
        // GREAT, only where it is looked at
        ShadowTester y = greatOne();
        y.set(0, 8);
        y.set(10, 6);
        for (int r = 1; r < 5; r++) y.set(10 + r, 99);
        y.rules(4);
        due("stops(), great", y.stops(), GREAT);
        y.rules(5);
        due("stops(), told ahead of it", y.stops(), 1);
        y.rules(4 + 16);
        due("stops(), great ahead of CLEAR", y.stops(), GREAT);
        y.rules(16);
        due("stops(), CLEAR says no", y.stops(), 0);
        y.rules(31);
        y.set(10, 7);
        y.quota(2, 1, 8);
        due("stops(), no rule is looked at ahead of quotas", y.stops(), 0);
        y.quota(2, 0, 8);
        due("stops(), great", y.stops(), GREAT);
        y.set(0, 6);
        due("stops(), SPAN is looked at first", y.stops(), 1);
    }

    // 22: says
    static void says() {
        ShadowTester x = four();
        due("says(0), none is on", x.says(0), STATE);
        for (int r : new int[] {-1, 5, LOW, HIGH}) due("says(" + r + ")", x.says(r), BAD);
        x.set(10, 1);
        priors(x, 3, 0, 0, 0, 1, 0, 0, 0, 0);
        x.begin(0);
        due("COUNT 0 of 1", x.says(0), 0);
        x.set(10, 0);
        due("COUNT 0 of 0", x.says(0), 1);
        x.set(11, 75);
        due("SURE 75 of 100", x.says(1), 1);
        x.set(11, 76);
        due("SURE 76 of 100", x.says(1), 0);
        // SPREAD (16 * 4 less 4 * 4) over 16, times 10: 480 and 16 times BOUND
        x.set(12, 30);
        due("NARROW 30", x.says(2), 1);
        x.set(12, 29);
        due("NARROW 29", x.says(2), 0);
        x.set(12, 0);
        due("NARROW 0", x.says(2), 0);
        ShadowTester one = four();
        priors(one, 0, 0, 7, 0, 0, 0, 0, 0, 0);
        one.begin(0);
        due("NARROW 0, a SPREAD of 0", one.says(2), 1);
        one.set(11, 99);
        due("SURE 99, one LEVEL", one.says(1), 1);
        // sums of WEIGHT times TELLS, heights 1, 3, 5, 7: 3 * 60 + 28; 3 * 28 + 60; 3 * 15 + 60; 3 * 15 + 28; ALL is 4
        x.set(13, 52);
        due("POOR 52: 208 is not below 208", x.says(3), 0);
        x.set(13, 53);
        due("POOR 53", x.says(3), 1);
        x.answer(0, 1);
        x.set(13, 0);
        due("POOR 0", x.says(3), 0);
        for (int i = 1; i < 4; i++) x.answer(i, 1);
        due("POOR 0, there is none", x.says(3), 1);
        due("says(0), on or not", x.count(7), 0);
        clear();
        greatRules();
    }

    static void clear() {
        ShadowTester x = fresh(5, 0, 0, 1, 5, 0, 0, 1, 0, 0, 4, 3, 5, 0, 0, 1, 5, 0, 0, 1);
        x.set(14, 1);
        x.begin(0);
        due("CLEAR 1 of none", x.says(4), 0);
        x.set(14, 0);
        due("CLEAR 0 of none", x.says(4), 1);
        x.answer(0, 1);
        x.set(14, 1);
        due("CLEAR 1 of 1, as ahead", x.says(4), 1);
        x.set(14, 2);
        due("CLEAR 2 of 1", x.says(4), 0);
        x.answer(2, 1);
        due("mode() has gone", x.mode(), 6);
        due("CLEAR 2, it has gone", x.says(4), 0);
        x.set(14, 0);
        due("CLEAR 0", x.says(4), 1);
        x.answer(1, 1);
        x.set(14, 1);
        due("CLEAR 1, behind it", x.says(4), 1);
        x.set(14, 2);
        due("CLEAR 2, the one ahead was another", x.says(4), 0);
        x.answer(3, 1);
        due("CLEAR 2", x.says(4), 1);
        x.set(14, 3);
        due("CLEAR 3", x.says(4), 0);
        x.set(14, 99);
        due("CLEAR 99", x.says(4), 0);
        // the MODE as this one began, not as another one did
        x.end();
        x.prior(3, 2);
        x.begin(0);
        x.answer(0, 1);
        x.set(14, 1);
        due("CLEAR 1, another test", x.says(4), 1);
    }

    static void greatRules() {
        ShadowTester y = greatOne();
        due("SURE 0 is a long", y.says(1), 1);
        due("NARROW, great", y.says(2), GREAT);
        due("POOR 0: the great one", y.says(3), GREAT);
        // an ITEM ahead of the great one has it
        ShadowTester x = new ShadowTester();
        for (int g = 0; g < 9; g++) x.prior(g, 1999999973 - g);
        x.item(5, 2, 0, 1);
        for (int i = 0; i < 6; i++) x.item(0, 0, 0, 3);
        x.item(0, 1, 8, 3);
        x.begin(0);
        for (int i = 1; i < 7; i++) x.answer(i, 1);
        due("POOR 0: the first has it, none is looked at behind", x.says(3), 0);
        x.set(13, 1);
        due("POOR 1: the first hasn't, the great one is looked at", x.says(3), GREAT);
        // ALL times BOUND is made also with no ITEM to be asked
        ShadowTester z = new ShadowTester();
        priors(z, 1, 0, 0, 0, 0, 0, 0, 0, 1999999973);
        for (int i = 0; i < 8; i++) z.item(0, 0, 0, 1);
        z.begin(0);
        for (int i = 0; i < 8; i++) z.answer(i, 1);
        z.set(13, 1);
        due("POOR 1, ALL is a long", z.says(3), 1);
        z.set(13, 2);
        due("POOR 2, ALL times 2 is none", z.says(3), GREAT);
        due("SURE, WEIGHT times 100 is none", z.says(1), GREAT);
        due("COUNT is never great", z.says(0), 1);
        due("CLEAR is never great", z.says(4), 1);
        due("MEAN, S is none", z.now(0, 1), NO);
        due("LIKELY, 16 times ALL is none", z.now(20, 0), NO);
    }

    // 23: drawn
    static void drawn() {
        ShadowTester x = four();
        due("drawn, none is on", x.drawn(1, 4, 0), STATE);
        x.begin(0);
        int[][] bad = {{-1, 0}, {9, 0}, {0, -1}, {0, 2}, {LOW, 0}, {0, HIGH}};
        for (int[] b : bad) due("drawn(1, " + b[0] + ", " + b[1] + ")", x.drawn(1, b[0], b[1]), BAD);
        due("drawn(1, 4, 0)", x.drawn(1, 4, 0), 4);
        for (int seed : new int[] {0, 1, -1, 12345, HIGH, LOW}) {
            ShadowTester y = four();
            y.begin(0);
            for (int g = 0; g < 9; g++) due("drawn(" + seed + ", " + g + ", 1)", y.drawn(seed, g, 1), drawnByHand(y, seed, g));
        }
        x.set(0, 2);
        due("drawn, SPAN 2", x.drawn(1, 4, 0), 2);
        x.answer(0, 1);
        due("drawn, it goes on from now", x.drawn(1, 4, 0), 1);
        x.answer(1, 1);
        due("drawn, it stops", x.drawn(1, 4, 0), 0);
        due("drawn, the MODE of now", x.drawn(1, 4, 1), x.mode());
        x.set(0, 8);
        due("drawn, no way", x.drawn(1, 4, 0), 0);
        x.set(0, 4);
        x.set(10, 3);
        x.rules(1);
        due("drawn, by a rule", x.drawn(1, 4, 0), 1);
        due("count(2), in thought", x.count(2), 2);
        due("told(2, 5), in thought", x.told(2, 5), 0);
        ShadowTester great = greatOne();
        due("drawn, the next is great", great.drawn(1, 4, 0), 0);
        great.quota(1, 0, 0);
        due("drawn, the next isn't", great.drawn(1, 4, 0), 1);
        great.rules(4);
        due("drawn, a rule is great", great.drawn(1, 4, 0), 0);
    }

    /** The MODE, by the calls themselves, laid back behind it. */
    static int drawnByHand(ShadowTester x, int seed, int level) {
        x.image();
        int z = seed;
        for (int k = 0; k < 8 && x.stops() == 0 && x.next() >= 0; k++) {
            int i = x.next();
            z = z * 1103515245 + 12345;
            x.answer(i, (z >>> 9) % 16 < x.by(i, level, 0) ? 1 : 0);
        }
        int mode = x.mode();
        x.back();
        return mode;
    }

    // 24: chance
    static void chance() {
        ShadowTester x = four();
        due("chance, none is on", x.chance(1, 4, 1, 0), STATE);
        x.begin(0);
        int[][] bad = {{-1, 1, 0}, {9, 1, 0}, {0, 0, 0}, {0, 11, 0}, {0, 1, -1}, {0, 1, 2}, {LOW, 1, 0}, {0, HIGH, 0}, {0, -1, 0}};
        for (int[] b : bad) due("chance(1, " + b[0] + ", " + b[1] + ", " + b[2] + ")", x.chance(1, b[0], b[1], b[2]), BAD);
        for (int seed : new int[] {0, -4, HIGH - 3, LOW}) {
            for (int g = 0; g < 9; g++) {
                for (int m : new int[] {1, 6, 10}) {
                    int in = 0;
                    for (int k = 0; k < m; k++) if (Math.abs(x.drawn(seed + k, g, 1) - g) < 2) in++;
                    long above = x.chance(seed, g, m, 0), below = x.chance(seed, g, m, 1);
                    due("chance as a fraction", above * m, below * in);
                    int common = 1;
                    for (int d = 2; d <= m; d++) if (in % d == 0 && m % d == 0) common = d;
                    due("chance in lowest terms", below, m / common);
                }
            }
            x.end();
            x = four();
            x.begin(0);
        }
        // nothing is asked: MODE 0 is no farther than 1 from 0 and 1
        x.set(0, 8);
        due("chance by 1, above", x.chance(3, 1, 10, 0), 1);
        due("chance by 1, below", x.chance(3, 1, 10, 1), 1);
        due("chance by 2, above", x.chance(3, 2, 10, 0), 0);
        due("chance by 2, below", x.chance(3, 2, 10, 1), 1);
    }

    // 25: tells
    static void tells() {
        // PLAIN, height 2 and 6, slope 2; RIGHT 1, 4, 8, 12, 15 .. and 1, 1, 1, 1, 1, 4, 8, 12, 15
        ShadowTester x = fresh(0, 0, 2, 2, 0, 0, 6, 2, 5, 0, 0, 1);
        due("tells, it is missing", x.tells(0, 0, 0), MISSING);
        int[][] bad = {{-1, 0, 0}, {4, 0, 0}, {0, -1, 0}, {0, 2, 0}, {0, 9, 0}, {0, 13, 0}, {0, 17, 0}, {0, 18, 0}, {0, 10, -1}, {0, 10, 9},
            {LOW, 0, 0}, {HIGH, 0, 0}, {0, LOW, 0}, {0, HIGH, 0}, {0, 12, HIGH}};
        for (int[] b : bad) due("tells(" + b[0] + ", " + b[1] + ", " + b[2] + ")", x.tells(b[0], b[1], b[2]), BAD);
        sheetOf(x, 0, 0, 1, 0);
        // right times wrong: 15, 60, 120, 180, 225, 180, 120 .. : level 4
        due("BEST", x.tells(0, 0, 99), 4);
        // the first one wrong: 15 * 15 at level 0; the second one right: 15 * 15 at level 8
        due("ITEMS", x.tells(0, 1, -5), 3);
        // the first as GUESS likewise; SLIP, BOTH: 12 from level 3 on, times 15: 3; HARD: 6 from 3 on: 3; FLAT: 0
        due("KINDS of 0 for 4", x.tells(0, 10, 4), 1 + 2);
        due("KINDS of 0 for 3", x.tells(0, 10, 3), 4 + 8 + 16);
        due("KINDS of 0 for 0", x.tells(0, 10, 0), 32);
        due("KINDS of 0 for 8", x.tells(0, 10, 8), 0);
        due("KINDS of 2, not told", x.tells(0, 12, 4), 63);
        due("KINDS of 2, not told", x.tells(0, 12, 5), 0);
        sheetOf(x, 1, 1, 1, 0, 1);
        due("BEST with a FLAT one", x.tells(1, 0, 0), 4);
        due("ITEMS, the FLAT one is none", x.tells(1, 1, 0), 3);
        sheetOf(x, 2, 1);
        due("BEST of none", x.tells(2, 0, 0), 0);
        due("ITEMS of none", x.tells(2, 1, 0), 0);
        due("KINDS of none", x.tells(2, 10, 0), 63);
        sheetOf(x, 3, 1, 1, 0, 2);
        due("one isn't 0, 1", x.tells(3, 0, 0), BAD);
        sheetOf(x, 3, 0, 1, -1, 1);
        due("one isn't 0, 1", x.tells(3, 1, 0), BAD);
        sheetOf(x, 3, 0, 1, 256, 257);
        due("of bytes the lowest bits", x.tells(3, 0, 0), 4);
        sheetOf(x, 3, 0, 0, 0, 0, 0);
        due("more than there are", x.tells(3, 0, 0), BAD);
        x.sheet(3, -1, 0);
        due("BAD is ahead of missing", x.tells(3, 13, 0), BAD);
        due("missing", x.tells(3, 10, 0), MISSING);
    }

    // 26: film
    static void film() {
        ShadowTester x = fresh(0, 0, 4, 1, 5, 0, 4, 1);
        due("film(0, 0)", x.film(0, 0), 15 + 28 + 48 + 60 + 64 + 60 + 48 + 28 + 15);
        due("it is of ints", x.load(0, 1, 0, 0), 0);
        due("it isn't of bytes", x.load(0, 0, 0, 0), UNLIKE);
        due("it has nine", x.put(0, 8, 0), 1);
        due("it has nine", x.put(0, 9, 0), OUTSIDE);
        due("film(3, 1)", x.film(3, 1), 0);
        due("a FLAT one's row tells nothing", x.copy(3, 0, 0, 0, 9), 9);
        int[][] bad = {{-1, 0}, {4, 0}, {0, -1}, {0, 2}, {LOW, 0}, {0, HIGH}};
        for (int[] b : bad) due("film(" + b[0] + ", " + b[1] + ")", x.film(b[0], b[1]), BAD);
        // what is in it: TELLS 0, 0 .. 18 by levels, read as items: a row of BOTH, slope 1 has 18s; GUESS at 4: 8 8 8 20 24 20 8 0 0
        ShadowTester y = fresh(1, 0, 4, 1, 5, 0, 0, 1, 5, 0, 0, 1);
        y.sheet(1, 0, 3);
        due("film(1, 0), a row of bytes becomes one of ints", y.film(1, 0), 96);
        y.sheet(2, 1, 2);
        due("copy of the last two", y.copy(1, 7, 2, 0, 2), 2);
        due("they are 0", y.tells(2, 0, 0), 0);
        due("copy of one ahead", y.copy(1, 6, 2, 0, 2), 2);
        due("it isn't", y.tells(2, 0, 0), BAD);
    }

    // 27, 28: image, back
    static void image() {
        ShadowTester x = four();
        due("back(), there is none", x.back(), STATE);
        due("image()", x.image(), 4);
        x.prior(0, 9);
        x.quota(0, 1, 2);
        x.item(1, 1, 1, 1);
        x.ease(0, 3);
        x.set(0, 2);
        x.set(1, 3);
        for (int r = 0; r < 5; r++) x.set(10 + r, 7 + r);
        x.rules(9);
        x.begin(4);
        x.answer(2, 1);
        x.sheet(1, 1, 3);
        due("back()", x.back(), 4);
        int[] zero = {1, 2, 3, 4, 5, 6, 7, 9, 10, 11, 12, 30, 31, 32, 33, 34};
        for (int what : zero) due("count(" + what + ")", x.count(what), 0);
        due("count(0)", x.count(0), 4);
        due("count(8)", x.count(8), 4);
        for (int a = 20; a < 23; a++) due("count(" + a + ")", x.count(a), 8);
        due("weight(0)", x.weight(0), 1);
        due("told(0, 4)", x.told(0, 4), 10);
        due("told(2, 5)", x.told(2, 5), 0);
        due("told(4, 0)", x.told(4, 0), BAD);
        due("sheets stay", x.put(1, 2, 1), 1);
        due("back() once more", x.back(), 4);
    }

    static void imageOfTest() {
        ShadowTester x = fresh(0, 0, 4, 3, 5, 0, 0, 1, 5, 1, 0, 1, 0, 2, 4, 1);
        x.ease(3, 0);
        x.begin(0);
        x.answer(0, 1);
        x.answer(1, 0);
        due("image() in a test", x.image(), 4);
        int mode = x.mode();
        x.prior(3, 5);
        x.answer(2, 1);
        x.end();
        x.item(0, 0, 0, 1);
        x.begin(3);
        due("back()", x.back(), 4);
        due("count(6)", x.count(6), 1);
        due("count(1)", x.count(1), 1);
        due("count(2)", x.count(2), 2);
        due("count(3)", x.count(3), 2);
        due("count(4)", x.count(4), 0);
        due("answered(0, 0)", x.answered(0, 0), 0);
        due("answered(1, 1)", x.answered(1, 1), 0);
        due("told(0, 7)", x.told(0, 7), 1);
        due("told(1, 7)", x.told(1, 7), 0);
        due("told(2, 7)", x.told(2, 7), NONE);
        due("told(2, 5)", x.told(2, 5), 0);
        due("told(3, 6)", x.told(3, 6), 1);
        due("mode()", x.mode(), mode);
        x.set(14, 1);
        due("modes are kept: CLEAR 1", x.says(4), 1);
        x.set(14, 2);
        due("modes are kept: CLEAR 2", x.says(4), 0);
        due("end()", x.end(), 2);
        due("priors are as then", x.weight(3), 1);
        due("another image()", x.image(), 4);
        x.begin(1);
        due("back() to the other", x.back(), 4);
        due("count(6)", x.count(6), 0);
        due("image() of a new one", new ShadowTester().image(), 0);
    }

    // 29: count
    static void count() {
        ShadowTester x = four();
        x.quota(1, 1, 5);
        x.set(0, 6);
        x.set(1, 2);
        x.set(12, 33);
        x.rules(3);
        x.set(1, 0);
        x.begin(0);
        x.set(1, 2);
        x.answer(0, 1);
        x.answer(1, 1);
        x.answer(3, 0);
        int[][] due = {{0, 4}, {1, 1}, {2, 3}, {3, 2}, {4, 0}, {5, 1}, {6, 1}, {7, 3}, {8, 6}, {9, 2}, {10, 0}, {11, 1}, {12, 0}, {20, 8},
            {21, 5}, {22, 8}, {30, 0}, {31, 0}, {32, 33}, {33, 0}, {34, 0}};
        for (int[] d : due) due("count(" + d[0] + ")", x.count(d[0]), d[1]);
        for (int w : new int[] {-1, 13, 19, 23, 29, 35, LOW, HIGH}) due("count(" + w + ")", x.count(w), BAD);
        x.end();
        for (int w = 2; w < 7; w++) due("count(" + w + "), over", x.count(w), 0);
        x.begin(0);
        due("count(1), a second one", x.count(1), 2);
    }

    // 30: sheet
    static void sheet() {
        ShadowTester x = new ShadowTester();
        due("sheet(0, 0, 40)", x.sheet(0, 0, 40), 1);
        due("put(0, 39, 1)", x.put(0, 39, 1), 1);
        due("put(0, 40, 1)", x.put(0, 40, 1), OUTSIDE);
        due("sheet(3, 1, 0)", x.sheet(3, 1, 0), 1);
        due("put(3, 0, 1)", x.put(3, 0, 1), OUTSIDE);
        int[][] bad = {{-1, 0, 1}, {4, 0, 1}, {0, -2, 1}, {0, 2, 1}, {0, 0, 41}, {0, 1, HIGH}, {LOW, 0, 1}, {HIGH, -1, 0}, {0, HIGH, -1},
            {4, 0, -1}};
        for (int[] b : bad) due("sheet(" + b[0] + ", " + b[1] + ", " + b[2] + ")", x.sheet(b[0], b[1], b[2]), BAD);
        due("sheet(0, 0, -1)", x.sheet(0, 0, -1), BELOW);
        due("sheet(0, 1, LOW)", x.sheet(0, 1, LOW), BELOW);
        due("put(0, 39, 1), unchanged", x.put(0, 39, 1), 1);
        due("sheet(0, -1, 99)", x.sheet(0, -1, 99), 1);
        due("put(0, 0, 1), missing", x.put(0, 0, 1), MISSING);
        due("sheet(0, -1, -5)", x.sheet(0, -1, -5), 1);
        // all 0 again
        ShadowTester y = fresh(0, 0, 0, 1);
        sheetOf(y, 0, 1, 2);
        due("it holds a 2", y.tells(0, 0, 0), BAD);
        y.sheet(0, 1, 1);
        due("it holds a 0", y.tells(0, 0, 0), 0);
    }

    // 31: put
    static void put() {
        ShadowTester x = fresh(0, 0, 0, 1);
        due("put(0, 0, 0), missing", x.put(0, 0, 0), MISSING);
        for (int s : new int[] {-1, 4, LOW, HIGH}) due("put(" + s + ", 0, 0)", x.put(s, 0, 0), BAD);
        x.sheet(0, 0, 1);
        x.sheet(1, 1, 1);
        for (int i : new int[] {-1, 1, 40, LOW, HIGH}) due("put(0, " + i + ", 0)", x.put(0, i, 0), OUTSIDE);
        due("put(0, 0, 513)", x.put(0, 0, 513), 1);
        due("bytes: its lowest bits are 1", x.tells(0, 1, 0), 1);
        due("put(1, 0, 513)", x.put(1, 0, 513), 1);
        due("ints: it is 513", x.tells(1, 0, 0), BAD);
        x.put(1, 0, 1);
        due("ints: it is 1", x.tells(1, 0, 0), 4);
    }

    // 32: copy
    static void copy() {
        // heights as a row tell which numbers came: load reads them
        ShadowTester x = new ShadowTester();
        x.sheet(0, 1, 6);
        x.sheet(1, 0, 6);
        due("copy to a missing one", x.copy(0, 0, 2, 0, 1), MISSING);
        due("copy of a missing one", x.copy(2, 0, 0, 0, 1), MISSING);
        due("missing is ahead of outside", x.copy(2, -1, 0, 0, -1), MISSING);
        due("of unlike sorts", x.copy(0, 0, 1, 0, 1), UNLIKE);
        due("unlike is ahead of outside", x.copy(0, -1, 1, 0, 1), UNLIKE);
        for (int s : new int[] {-1, 4, LOW, HIGH}) {
            due("copy(" + s + ", ..)", x.copy(s, 0, 0, 0, 1), BAD);
            due("copy(.., " + s + ", ..)", x.copy(0, 0, s, 0, 1), BAD);
        }
        due("BAD is ahead of missing", x.copy(2, 0, 4, 0, 1), BAD);
        x.sheet(2, 1, 4);
        int[][] out = {{-1, 0, 1}, {0, -1, 1}, {0, 0, -1}, {0, 0, 5}, {3, 0, 4}, {0, 1, 4}, {6, 0, 1}, {0, 4, 1}, {7, 0, 0}, {0, 5, 0}, {-1, 0, 0},
            {HIGH, 0, 1}, {0, HIGH, 1}, {0, 0, HIGH}, {1, 1, HIGH}, {LOW, 0, 1}, {0, LOW, LOW}};
        for (int[] o : out) due("copy(0, " + o[0] + ", 2, " + o[1] + ", " + o[2] + ")", x.copy(0, o[0], 2, o[1], o[2]), OUTSIDE);
        due("none of it", x.copy(0, 6, 2, 4, 0), 0);
        sheetOf(x, 0, 1, 9, 0, 1, 4, 2, 9);
        due("four of it", x.copy(0, 1, 2, 0, 4), 4);
        due("load of them", x.load(2, 1, 0, 1), 1);
        due("told(0, 1)", x.told(0, 1), 1);
        due("told(0, 2)", x.told(0, 2), 4);
        due("told(0, 3)", x.told(0, 3), 2);
        // as they were, though they overlap: 1 2 3 . . becomes 1 1 2 3 .
        sheetOf(x, 0, 1, 5, 2, 3, 1, 0);
        due("copy upon itself, up", x.copy(0, 0, 0, 1, 4), 4);
        due("load", x.load(0, 1, 1, 1), 1);
        int[] due = {5, 2, 3, 1};
        for (int w = 0; w < 4; w++) due("told(1, " + w + ")", x.told(1, w), due[w]);
        sheetOf(x, 0, 1, 0, 4, 1, 6, 2);
        due("copy upon itself, down", x.copy(0, 1, 0, 0, 4), 4);
        due("load", x.load(0, 1, 0, 1), 1);
        int[] down = {4, 1, 6, 2};
        for (int w = 0; w < 4; w++) due("told(2, " + w + ")", x.told(2, w), down[w]);
    }

    // 33: load
    static void load() {
        ShadowTester x = new ShadowTester();
        due("load, missing", x.load(0, 0, 0, 1), MISSING);
        due("load of none, missing", x.load(0, 1, 0, 0), MISSING);
        int[][] bad = {{-1, 0, 1}, {4, 0, 1}, {0, -1, 1}, {0, 2, 1}, {0, 0, -1}, {0, 0, 9}, {LOW, 0, 1}, {0, HIGH, 1}, {0, 0, HIGH}};
        for (int[] b : bad) due("load(" + b[0] + ", " + b[1] + ", 0, " + b[2] + ")", x.load(b[0], b[1], 0, b[2]), BAD);
        sheetOf(x, 0, 0, 1, 2, 3, 1, 6, 0, 0, 1, 2, 0, 8, 3, 0, 0);
        due("load, unlike", x.load(0, 1, 0, 1), UNLIKE);
        due("unlike is ahead of outside", x.load(0, 1, -1, 1), UNLIKE);
        due("load, one is left out", x.load(0, 0, 0, 3), 2);
        due("count(0)", x.count(0), 2);
        int[][] due = {{1, 2, 3, 1}, {2, 0, 8, 3}};
        for (int i = 0; i < 2; i++) for (int w = 0; w < 4; w++) due("told(" + i + ", " + w + ")", x.told(i, w), due[i][w]);
        due("load, the third is outside", x.load(0, 0, 4, 3), OUTSIDE);
        due("what stood ahead came", x.count(0), 3);
        for (int from : new int[] {-1, 11, 14, LOW, HIGH}) due("load from " + from, x.load(0, 0, from, 1), OUTSIDE);
        due("load from 10, left out", x.load(0, 0, 10, 1), 0);
        due("load of none", x.load(0, 0, 0, 0), 0);
        sheetOf(x, 1, 1, new int[40]);
        for (int i = 3; i < 40; i += 4) x.put(1, i, 1);
        due("load of eight, three are left out", x.load(1, 1, 0, 8), 5);
        due("count(0)", x.count(0), 8);
        due("load, it is full", x.load(1, 1, 0, 1), 0);
        due("load, it is full, and one outside", x.load(1, 1, 36, 2), OUTSIDE);
        ShadowTester y = new ShadowTester();
        sheetOf(y, 2, 1, 0, 0, 0, 1);
        y.begin(0);
        due("load in a test", y.load(2, 1, 0, 1), 1);
        due("it is held back", y.told(0, 6), 1);
    }

    public static void main(String[] args) {
        at("promise 1"); newObject();
        at("promise 2"); prior();
        at("promise 3"); quota();
        at("promise 4"); item();
        at("promise 5"); ease();
        at("promise 6"); set();
        at("promise 7"); rules();
        at("promise 8"); told();
        at("promise 9"); by();
        at("promise 10"); taken();
        at("promise 11"); begin();
        at("promise 12"); answer();
        at("promise 13"); end();
        at("promise 14"); answered();
        at("promise 15"); weight();
        at("promise 16"); now();
        at("promise 17"); mode();
        at("promise 18"); would();
        at("promise 19"); shadow();
        greatShadow();
        at("promise 20"); next();
        at("promise 21"); stops();
        at("promise 22"); says();
        at("promise 23"); drawn();
        at("promise 24"); chance();
        at("promise 25"); tells();
        at("promise 26"); film();
        at("promise 27"); image();
        at("promise 28"); imageOfTest();
        at("promise 29"); count();
        at("promise 30"); sheet();
        at("promise 31"); put();
        at("promise 32"); copy();
        at("promise 33"); load();
        close("promises");
    }
}
