/** What the tests of promises and of boundaries share: what the document's numbers are, objects made ready, answers held against those due. */
class Bench {
    static final int NONE = -1, BAD = -2, STATE = -3, FULL = -4, GREAT = -7, NO_WAY = -8;
    static final int MISSING = -11, OUTSIDE = -12, UNLIKE = -13, BELOW = -14;
    static final long NO = Long.MIN_VALUE;
    static final int LOW = Integer.MIN_VALUE, HIGH = Integer.MAX_VALUE;

    private static String where = "";
    private static int places = 0;
    private static int checked = 0;
    private static int checkedAhead = 0;
    private static int wrong = 0;

    /** What follows tests this: a promise, or a sentence. */
    static void at(String place) {
        closePlace();
        where = place;
        places++;
    }

    private static void closePlace() {
        if (places > 0 && checked == checkedAhead) {
            wrong++;
            System.out.println(where + ": nothing was tested");
        }
        checkedAhead = checked;
    }

    static void due(String what, long got, long want) {
        checked++;
        if (got == want) return;
        wrong++;
        System.out.println(where + ": " + what + " answered " + got + ", due is " + want);
    }

    /** Tells the sum, and ends with 1 if something was wrong. */
    static void close(String ofWhat) {
        closePlace();
        System.out.println(places + " " + ofWhat + ", " + checked + " answers, " + wrong + " not as due");
        if (wrong > 0) System.exit(1);
    }

    static ShadowTester fresh(int... items) {
        ShadowTester x = new ShadowTester();
        for (int i = 0; i + 3 < items.length; i += 4) x.item(items[i], items[i + 1], items[i + 2], items[i + 3]);
        return x;
    }

    /** Four PLAIN items of slope 1, heights 1, 3, 5, 7, areas 0, 0, 1, 2. */
    static ShadowTester four() {
        return fresh(0, 0, 1, 1, 0, 0, 3, 1, 0, 1, 5, 1, 0, 2, 7, 1);
    }

    static void priors(ShadowTester x, int... v) {
        for (int g = 0; g < 9; g++) if (v[g] > 0) x.prior(g, v[g]);
        for (int g = 0; g < 9; g++) if (v[g] == 0) x.prior(g, 0);
    }

    static void sheetOf(ShadowTester x, int sheet, int sort, int... v) {
        x.sheet(sheet, sort, v.length);
        for (int i = 0; i < v.length; i++) x.put(sheet, i, v[i]);
    }
}
