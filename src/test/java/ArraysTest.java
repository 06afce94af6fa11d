/** Promise 10 and the STEPS of 28 to 31: SITES, their LENGTHS and ELEMENTS, and what is told behind. */
public final class ArraysTest {
    private static final int MIN = Integer.MIN_VALUE;
    private static final int MAX = Integer.MAX_VALUE;

    public static void main(String[] args) {
        outside();
        made();
        lengthsBehind();
        elements();
        indexesBehind();
        noStep();
        severalSites();
        sameMark();
        Due.end("ArraysTest");
    }

    private static void spanOf(String what, AnalysisHouse h, int s, int from, long low, long high, long stride) {
        Due.due(what + " low", h.site(s, from), low);
        Due.due(what + " high", h.site(s, from + 1), high);
        Due.due(what + " stride", h.site(s, from + 2), stride);
    }

    private static void outside() {
        AnalysisHouse h = Due.built(0, 0, 0, 0, 33, 0);
        Due.due("6 of OUTSIDE", h.site(0, 6), Due.NONE);
        Due.due("7 of OUTSIDE", h.site(0, 7), Due.NONE);
        Due.due("0 without a CERTIFICATE", h.site(0, 0), Due.NO);
        Due.due("SITE -1", h.site(-1, 6), Due.NO);
        Due.due("SITE 1", h.site(1, 6), Due.NO);
        h.analyze(1);
        spanOf("LENGTH of OUTSIDE", h, 0, 0, 0, MAX, 1);
        spanOf("ELEMENT of OUTSIDE", h, 0, 3, MIN, MAX, 1);
        Due.due("what 8", h.site(0, 8), Due.NO);
        Due.due("what -1", h.site(0, -1), Due.NO);
        Due.due("SITE 1 analysed", h.site(1, 0), Due.NO);
    }

    private static void made() {
        // LOCAL 0 .. by 5: 28 of 0, 5, .., 15; then one of 7 that none comes to
        AnalysisHouse h = Due.built(1, 2, 2, 2,
            1, 0, 0, 3, 12, 0, 0, 5, 9, 0, 28, 0, 33, 0);
        Due.due("METHOD of SITE 1", h.site(1, 6), 0);
        Due.due("PLACE of SITE 1", h.site(1, 7), 5);
        Due.due("SITE 2", h.site(2, 6), Due.NO);
        h.analyze(1);
        spanOf("LENGTH of SITE 1", h, 1, 0, 0, 15, 5);
        spanOf("ELEMENT of SITE 1", h, 1, 3, 0, 0, 0);
        Due.set("28", h, Due.at(0, 6, 10), 2, false);
        Due.due("28: MARK", h.state(0, 6, 10, 5), Due.NONE);
        Due.due("RESULT: SITES", h.result(0, 3), 2);
        Due.due("RESULT: null", h.result(0, 4), 0);
        h = Due.built(0, 0, 0, 0, 0, -1, 28, 0, 4, 0, 0, 1, 28, 0, 33, 0);
        h.analyze(1);
        Due.due("28 of -1: no STEP", h.reached(0, 2), false);
        Due.due("NOTHING is told of its LENGTH", h.site(1, 0), Due.NO);
        Due.due("nor of its ELEMENT", h.site(1, 3), Due.NO);
        Due.due("its PLACE is", h.site(1, 7), 1);
        Due.due("nor of the next", h.site(2, 2), Due.NO);
        h.analyze(0);
        Due.due("no ROOTS: no LENGTH", h.site(2, 0), Due.NO);
        spanOf("no ROOTS: OUTSIDE", h, 0, 0, 0, MAX, 1);
    }

    private static void lengthsBehind() {
        AnalysisHouse h = Due.analysed(1, 1, 0, 0, 1, 0, 1, 0, 28, 0, 29, 0, 33, 0);
        spanOf("LENGTH within 0 on", h, 1, 0, 0, MAX, 1);
        Due.span("28: LOCAL", h, Due.at(0, 3, 0), 0, MAX, 1);
        Due.span("28: place of the stack", h, Due.at(0, 3, 10), 0, MAX, 1);
        Due.span("29", h, Due.at(0, 4, 11), 0, MAX, 1);
        Due.due("29: MARK", h.state(0, 4, 11, 5), Due.NONE);
        h = Due.analysed(1, 1, 1, 1, 1, 0, 1, 0, 29, 0, 33, 0);
        Due.set("29: LOCAL without null", h, Due.at(0, 3, 0), 1, false);
        Due.set("29: place of the stack without null", h, Due.at(0, 3, 10), 1, false);
        Due.span("29 of OUTSIDE", h, Due.at(0, 3, 11), 0, MAX, 1);
    }

    private static void elements() {
        // an ARRAY of 4: 10, then 16 are put there, then it is read
        AnalysisHouse h = Due.analysed(0, 1, 1, 1,
            0, 4, 28, 0, 2, 0,
            1, 0, 0, 0, 0, 10, 31, 0,
            1, 0, 0, 1, 0, 16, 31, 0,
            1, 0, 0, 2, 30, 0, 33, 0);
        spanOf("ELEMENT", h, 1, 3, 0, 16, 2);
        spanOf("LENGTH", h, 1, 0, 4, 4, 0);
        Due.span("30", h, Due.at(0, 14, 10), 0, 16, 2);
        Due.due("30: MARK", h.state(0, 14, 10, 5), Due.NONE);
        Due.due("RESULT low", h.result(0, 0), 0);
        Due.due("RESULT high", h.result(0, 1), 16);
        Due.due("RESULT stride", h.result(0, 2), 2);
        h = Due.analysed(1, 1, 1, 1, 1, 0, 0, 0, 0, 99, 31, 0, 1, 0, 0, 0, 30, 0, 33, 0);
        Due.span("30 of OUTSIDE", h, Due.at(0, 7, 10), MIN, MAX, 1);
        spanOf("OUTSIDE stays", h, 0, 3, MIN, MAX, 1);
    }

    private static void indexesBehind() {
        // LOCAL 1 is an ARRAY of 10 .. 13, LOCAL 0 an argument
        int[] lines = {1, 0, 0, 3, 12, 0, 0, 10, 7, 0, 28, 0, 2, 1, 1, 0, 1, 1, 1, 0, 30, 0, 33, 0};
        AnalysisHouse h = Due.analysed(1, 2, 2, 0, lines);
        Due.span("30: i", h, Due.at(0, 11, 0), 0, 12, 1);
        Due.span("30: place of the stack", h, Due.at(0, 11, 10), 0, 12, 1);
        Due.set("30: r", h, Due.at(0, 11, 1), 2, false);
        int[] put = {1, 0, 0, 3, 12, 0, 0, 10, 7, 0, 28, 0, 2, 1, 1, 0, 1, 1, 1, 0, 0, 8, 31, 0, 33, 0};
        h = Due.analysed(1, 2, 2, 0, put);
        Due.span("31: i", h, Due.at(0, 12, 0), 0, 12, 1);
        Due.span("31: place of the stack", h, Due.at(0, 12, 10), 0, 12, 1);
        Due.due("31: nothing is put on the stack", h.state(0, 12, 11, 0), Due.NO);
        spanOf("31: ELEMENT", h, 1, 3, 0, 8, 8);
        // OUTSIDE: an index up to 2147483646, and no null any more
        h = Due.analysed(2, 2, 2, 0, 1, 1, 1, 0, 30, 0, 33, 0);
        Due.span("30 of OUTSIDE: i", h, Due.at(0, 3, 0), 0, MAX - 1, 1);
        Due.set("30 of OUTSIDE: r", h, Due.at(0, 3, 1), 1, false);
        h = Due.analysed(2, 2, 2, 0, 1, 1, 1, 0, 0, 5, 31, 0, 33, 0);
        Due.span("31 of OUTSIDE: i", h, Due.at(0, 4, 0), 0, MAX - 1, 1);
        Due.set("31 of OUTSIDE: r", h, Due.at(0, 4, 1), 1, false);
    }

    private static void noStep() {
        for (int op = 29; op <= 31; op++) {
            int[] lines = {3, 0, op > 29 ? 0 : 19, op > 29 ? 0 : 2, op > 30 ? 0 : 19, op > 30 ? 0 : 3, op, 0, 33, 0};
            AnalysisHouse h = Due.analysed(0, 0, 0, 0, lines);
            Due.due(op + " of null: come to", h.reached(0, 3), true);
            Due.due(op + " of null: no STEP", h.reached(0, 4), false);
        }
        AnalysisHouse h = Due.analysed(0, 0, 0, 0, 0, 5, 28, 0, 0, 5, 30, 0, 33, 0);
        Due.due("30 at its LENGTH: no STEP", h.reached(0, 4), false);
        h = Due.analysed(0, 0, 0, 0, 0, 5, 28, 0, 0, 4, 30, 0, 33, 0);
        Due.due("30 at the last", h.reached(0, 4), true);
        h = Due.analysed(0, 0, 0, 0, 0, 5, 28, 0, 0, -1, 30, 0, 33, 0);
        Due.due("30 at -1: no STEP", h.reached(0, 4), false);
        h = Due.analysed(0, 0, 0, 0, 0, 0, 28, 0, 0, 0, 30, 0, 33, 0);
        Due.due("30 of an ARRAY of none: no STEP", h.reached(0, 4), false);
        h = Due.analysed(0, 0, 0, 0, 0, 5, 28, 0, 0, 9, 0, 77, 31, 0, 33, 0);
        Due.due("31 beyond: no STEP", h.reached(0, 5), false);
        spanOf("31 beyond: ELEMENT stays", h, 1, 3, 0, 0, 0);
    }

    /** LOCAL 1 is one of two SITES: of LENGTH 4 or 10; what is put there is put to both. */
    private static void severalSites() {
        AnalysisHouse h = Due.analysed(1, 2, 2, 0,
            1, 0, 0, 0, 22, 6, 0, 4, 28, 0, 19, 8, 0, 10, 28, 0, 2, 1,
            1, 1, 29, 0, 4, 0,
            1, 1, 0, 9, 0, -6, 31, 0,
            1, 1, 0, 2, 30, 0, 33, 0);
        Due.set("of both SITES", h, Due.at(0, 9, 1), 6, false);
        Due.span("29 of both", h, Due.at(0, 11, 10), 4, 10, 6);
        spanOf("ELEMENT of the first", h, 1, 3, -6, 0, 6);
        spanOf("ELEMENT of the second", h, 2, 3, -6, 0, 6);
        spanOf("LENGTH of the first", h, 1, 0, 4, 4, 0);
        spanOf("LENGTH of the second", h, 2, 0, 10, 10, 0);
        Due.span("30 of both", h, Due.at(0, 19, 10), -6, 0, 6);
        Due.due("check", h.check(), 1);
    }

    /** What is put at an index of the same LOCAL is put as it was told before. */
    private static void sameMark() {
        AnalysisHouse h = Due.analysed(1, 2, 2, 0, 0, 10, 28, 0, 2, 1, 1, 1, 1, 0, 1, 0, 31, 0, 33, 0);
        Due.span("i behind", h, Due.at(0, 7, 0), 0, 9, 1);
        spanOf("ELEMENT", h, 1, 3, MIN, MAX, 1);
    }
}
