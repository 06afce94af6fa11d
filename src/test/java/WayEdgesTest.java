/** The edges of THE STEP of 19 to 35 that 'Terms' names, sentence by sentence: ways, ARRAYS, METHODS and FIELDS. */
public final class WayEdgesTest {
    private static final int MIN = Integer.MIN_VALUE;
    private static final int MAX = Integer.MAX_VALUE;
    private static final long[] ALL = Lines.ALL;

    public static void main(String[] args) {
        equal();
        notEqual();
        less();
        others();
        bySpansBefore();
        firstToA();
        nulls();
        marksOfWays();
        oneMark();
        newArrays();
        sizesBehind();
        lengths();
        elements();
        puts();
        arraysBehind();
        indexesBehind();
        noStep();
        calls();
        callsThatDoNotReturn();
        returns();
        fields();
        Due.end("WayEdgesTest");
    }

    private static long[] is(long... span) {
        return Lines.is(span);
    }

    private static String name(long[] span) {
        return span[0] + " .. " + span[1] + " by " + span[2];
    }

    private static void span(String what, AnalysisHouse h, int place, int slot, long[] want) {
        Due.span(what, h, Due.at(0, place, slot), want[0], want[1], want[2]);
    }

    /** LOCAL 2 is x, LOCAL 3 is y: what they are at a, and at the next PLACE; null: that way is not come to. */
    private static void ways(int op, long[] x, long[] y, long[][] atA, long[][] next) {
        int[] put = Lines.join(Lines.make(x, 0), Lines.of(2, 2), Lines.make(y, 1), Lines.of(2, 3, 1, 2, 1, 3));
        int at = put.length / 2;
        AnalysisHouse h = Due.analysed(2, 4, 0, 0, Lines.join(put, Lines.of(op, at + 2, 33, 0, 33, 0)));
        String what = name(x) + " " + op + " " + name(y);
        span(what + ", x", h, at, 10, x);
        span(what + ", y", h, at, 11, y);
        way(what + " at a", h, at + 2, atA);
        way(what + " next", h, at + 1, next);
        Due.due(what + " check", h.check(), 1);
    }

    private static void way(String what, AnalysisHouse h, int place, long[][] want) {
        Due.due(what + ": come to", h.reached(0, place), want != null);
        if (want != null) {
            span(what + ": x", h, place, 2, want[0]);
            span(what + ": y", h, place, 3, want[1]);
        }
    }

    private static long[][] xy(long[] x, long[] y) {
        return new long[][] {x, y};
    }

    private static void equalAndNot(long[] x, long[] y, long[][] equal, long[][] not) {
        ways(20, x, y, equal, not);
        ways(21, x, y, not, equal);
        long[][] equalTurned = equal == null ? null : xy(equal[1], equal[0]);
        long[][] notTurned = not == null ? null : xy(not[1], not[0]);
        ways(20, y, x, equalTurned, notTurned);
        ways(21, y, x, notTurned, equalTurned);
    }

    private static void equal() {
        Due.of("=: WITHIN the other's low .. high, both;");
        equalAndNot(is(0, 5, 1), is(5, 9, 1), xy(is(5), is(5)), xy(is(0, 5, 1), is(5, 9, 1)));
        equalAndNot(is(0, 5, 1), is(4, 9, 1), xy(is(4, 5, 1), is(4, 5, 1)), xy(is(0, 5, 1), is(4, 9, 1)));
        equalAndNot(is(0, 4, 1), is(5, 9, 1), null, xy(is(0, 4, 1), is(5, 9, 1)));
        equalAndNot(is(0, 20, 5), is(11, 14, 1), null, xy(is(0, 20, 5), is(11, 14, 1)));
        equalAndNot(is(0, 20, 5), is(6, 9, 3), null, xy(is(0, 20, 5), is(6, 9, 3)));
        equalAndNot(is(0, 20, 5), is(5, 16, 11), xy(is(5, 15, 5), is(5, 16, 11)), xy(is(0, 20, 5), is(5, 16, 11)));
        equalAndNot(ALL, is(-3, 3, 1), xy(is(-3, 3, 1), is(-3, 3, 1)), xy(ALL, is(-3, 3, 1)));
    }

    private static void notEqual() {
        Due.of("not =: of one that is single c the other loses c at its ends;");
        equalAndNot(is(0, 9, 1), is(0), xy(is(0), is(0)), xy(is(1, 9, 1), is(0)));
        equalAndNot(is(0, 9, 1), is(9), xy(is(9), is(9)), xy(is(0, 8, 1), is(9)));
        equalAndNot(is(0, 9, 1), is(5), xy(is(5), is(5)), xy(is(0, 9, 1), is(5)));
        equalAndNot(is(0, 9, 1), is(10), null, xy(is(0, 9, 1), is(10)));
        equalAndNot(is(0, 20, 5), is(0), xy(is(0), is(0)), xy(is(5, 20, 5), is(0)));
        equalAndNot(is(0, 20, 5), is(20), xy(is(20), is(20)), xy(is(0, 15, 5), is(20)));
        equalAndNot(is(0, 1, 1), is(0), xy(is(0), is(0)), xy(is(1), is(0)));
        equalAndNot(is(0, 1, 1), is(1), xy(is(1), is(1)), xy(is(0), is(1)));
        equalAndNot(is(0, 5, 5), is(5), xy(is(5), is(5)), xy(is(0), is(5)));
        equalAndNot(is(3), is(3), xy(is(3), is(3)), null);
        equalAndNot(is(0), is(0), xy(is(0), is(0)), null);
        equalAndNot(is(1), is(1), xy(is(1), is(1)), null);
        equalAndNot(is(MIN), is(MIN), xy(is(MIN), is(MIN)), null);
        equalAndNot(is(MAX), is(MAX), xy(is(MAX), is(MAX)), null);
        equalAndNot(is(3), is(4), null, xy(is(3), is(4)));
        equalAndNot(ALL, is(MIN), xy(is(MIN), is(MIN)), xy(is(MIN + 1, MAX, 1), is(MIN)));
        equalAndNot(ALL, is(MAX), xy(is(MAX), is(MAX)), xy(is(MIN, MAX - 1, 1), is(MAX)));
    }

    private static void lessAndNot(long[] x, long[] y, long[][] less, long[][] not) {
        ways(22, x, y, less, not);
        ways(23, x, y, not, less);
    }

    private static void less() {
        Due.of("< : x WITHIN up to y's high less 1, y from x's low and 1 on;");
        long[] digits = is(0, 9, 1);
        lessAndNot(digits, digits, xy(is(0, 8, 1), is(1, 9, 1)), xy(digits, digits));
        lessAndNot(is(5, 9, 1), is(0, 6, 1), xy(is(5), is(6)), xy(is(5, 9, 1), is(0, 6, 1)));
        lessAndNot(is(5, 9, 1), is(0, 5, 1), null, xy(is(5, 9, 1), is(0, 5, 1)));
        lessAndNot(is(0, 4, 1), is(5, 9, 1), xy(is(0, 4, 1), is(5, 9, 1)), null);
        lessAndNot(is(0, 5, 1), is(5, 9, 1), xy(is(0, 5, 1), is(5, 9, 1)), xy(is(5), is(5)));
        lessAndNot(is(0, 20, 5), is(0, 12, 4), xy(is(0, 10, 5), is(4, 12, 4)), xy(is(0, 20, 5), is(0, 12, 4)));
        lessAndNot(is(0, 20, 5), is(20), xy(is(0, 15, 5), is(20)), xy(is(20), is(20)));
        lessAndNot(is(0, 20, 5), is(0), null, xy(is(0, 20, 5), is(0)));
        lessAndNot(is(3), is(3), null, xy(is(3), is(3)));
        lessAndNot(is(3), is(4), xy(is(3), is(4)), null);
        lessAndNot(ALL, is(MIN), null, xy(ALL, is(MIN)));
        lessAndNot(is(MAX), ALL, null, xy(is(MAX), ALL));
        lessAndNot(ALL, is(MAX), xy(is(MIN, MAX - 1, 1), is(MAX)), xy(is(MAX), is(MAX)));
        lessAndNot(is(MIN), ALL, xy(is(MIN), is(MIN + 1, MAX, 1)), xy(is(MIN), is(MIN)));
        lessAndNot(ALL, ALL, xy(is(MIN, MAX - 1, 1), is(MIN + 1, MAX, 1)), xy(ALL, ALL));
    }

    private static void moreAndNot(long[] x, long[] y, long[][] more, long[][] not) {
        ways(24, x, y, more, not);
        ways(25, x, y, not, more);
    }

    private static void others() {
        Due.of("others likewise");
        long[] digits = is(0, 9, 1);
        moreAndNot(digits, digits, xy(is(1, 9, 1), is(0, 8, 1)), xy(digits, digits));
        moreAndNot(is(0, 6, 1), is(5, 9, 1), xy(is(6), is(5)), xy(is(0, 6, 1), is(5, 9, 1)));
        moreAndNot(is(0, 5, 1), is(5, 9, 1), null, xy(is(0, 5, 1), is(5, 9, 1)));
        moreAndNot(is(5, 9, 1), is(0, 5, 1), xy(is(5, 9, 1), is(0, 5, 1)), xy(is(5), is(5)));
        moreAndNot(is(5, 9, 1), is(0, 4, 1), xy(is(5, 9, 1), is(0, 4, 1)), null);
        moreAndNot(is(0, 12, 4), is(0, 20, 5), xy(is(4, 12, 4), is(0, 10, 5)), xy(is(0, 12, 4), is(0, 20, 5)));
        moreAndNot(is(3), is(3), null, xy(is(3), is(3)));
        moreAndNot(is(4), is(3), xy(is(4), is(3)), null);
        moreAndNot(ALL, is(MAX), null, xy(ALL, is(MAX)));
        moreAndNot(is(MIN), ALL, null, xy(is(MIN), ALL));
        moreAndNot(ALL, is(MIN), xy(is(MIN + 1, MAX, 1), is(MIN)), xy(is(MIN), is(MIN)));
        moreAndNot(is(MAX), ALL, xy(is(MAX), is(MIN, MAX - 1, 1)), xy(is(MAX), is(MAX)));
    }

    private static void bySpansBefore() {
        Due.of("(all of these by the SPANS before).");
        equalAndNot(is(0, 20, 5), is(7, 13, 1), xy(is(10), is(7, 13, 1)), xy(is(0, 20, 5), is(7, 13, 1)));
        equalAndNot(is(0, 20, 10), is(5, 12, 7), xy(is(10), is(5, 12, 7)), xy(is(0, 20, 10), is(5, 12, 7)));
        // x loses 0 and is 1 alone then: y, single too, does not lose 1 by that
        equalAndNot(is(0, 1, 1), is(0), xy(is(0), is(0)), xy(is(1), is(0)));
    }

    /**
     * LOCALS 1 and 2 are FIELD 0, which is 0, then 0 .. 1, 0 .. 2, 0 .. 3 from PASS to PASS. From PASS 2 on both ways go
     * to PLACE 7 and each changes it, for what comes first, x < y, has less: so PASS 3 has the 4th change.
     */
    private static void firstToA() {
        Due.of("20 to 25: first to a, then to the next PLACE (by the contrary):");
        AnalysisHouse h = Due.analysed(0, 3, 0, 0,
            34, 0, 2, 1, 34, 0, 2, 2, 1, 1, 1, 2, 22, 7, 19, 8, 19, 9,
            34, 0, 0, 1, 7, 0, 2, 0, 1, 0, 0, 3, 24, 18, 1, 0, 35, 0, 33, 0, 19, 7);
        span("FIELD 0", h, 1, 10, is(0, 3, 1));
        span("x, two PLACES behind", h, 9, 1, is(0, 127, 1));
        span("y, two PLACES behind", h, 9, 2, is(0, 127, 1));
    }

    private static void nulls() {
        Due.of("26, 27: null alone, or without null. NOTHING (of a SET: neither null nor a SITE): that way is not come "
            + "to.");
        for (int op = 26; op <= 27; op++) {
            int isNull = op == 26 ? 4 : 3;
            int isNot = 7 - isNull;
            AnalysisHouse h = Due.analysed(2, 2, 3, 0, 1, 0, 1, 0, op, 4, 33, 0, 33, 0);
            Due.set(op + " null: the LOCAL", h, Due.at(0, isNull, 0), 0, true);
            Due.set(op + " null: the stack", h, Due.at(0, isNull, 10), 0, true);
            Due.set(op + " not: the LOCAL", h, Due.at(0, isNot, 0), 1, false);
            Due.set(op + " not: the stack", h, Due.at(0, isNot, 10), 1, false);
            Due.set(op + " another LOCAL", h, Due.at(0, isNull, 1), 1, true);
            h = Due.analysed(0, 1, 1, 0, 1, 0, 1, 0, op, 4, 33, 0, 33, 0);
            Due.due(op + " of null alone: null", h.reached(0, isNull), true);
            Due.due(op + " of null alone: not", h.reached(0, isNot), false);
            h = Due.analysed(0, 0, 0, 0, 0, 0, 28, 0, op, 4, 33, 0, 33, 0);
            Due.due(op + " of a SITE alone: null", h.reached(0, isNull), false);
            Due.due(op + " of a SITE alone: not", h.reached(0, isNot), true);
        }
    }

    /** LOCALS 0 and 1 are 0 .. 9 and lie on the stack; a number lies between them. */
    private static int[] twoOnStack() {
        return Lines.of(1, 0, 0, 9, 12, 0, 2, 0, 1, 1, 0, 9, 12, 0, 2, 1, 1, 0, 1, 1, 0, 3);
    }

    private static void marksOfWays() {
        Due.of("What a MARK tells of has the same then: the LOCAL (and the places of the stack that have its MARK) "
            + "become as x, y;");
        AnalysisHouse h = Due.analysed(2, 2, 0, 0, Lines.join(
            twoOnStack(), Lines.of(1, 0, 1, 1, 22, 15, 33, 0, 33, 0)));
        span("x's LOCAL", h, 15, 0, is(0, 8, 1));
        span("x's place of the stack", h, 15, 10, is(0, 8, 1));
        span("y's LOCAL", h, 15, 1, is(1, 9, 1));
        span("y's place of the stack", h, 15, 11, is(1, 9, 1));
        span("what has no MARK", h, 15, 12, is(3));
        Due.due("the MARK of x stays", h.state(0, 15, 10, 5), 0);
        Due.due("the MARK of y stays", h.state(0, 15, 11, 5), 1);
        // x has no MARK, y has one
        h = Due.analysed(2, 2, 0, 0, Lines.join(twoOnStack(), Lines.of(0, 4, 1, 1, 22, 15, 33, 0, 33, 0)));
        span("x without a MARK: LOCAL 0 stays", h, 15, 0, is(0, 9, 1));
        span("y: from 5 on", h, 15, 1, is(5, 9, 1));
        span("y's place of the stack", h, 15, 11, is(5, 9, 1));
        h = Due.analysed(2, 2, 0, 0, Lines.join(twoOnStack(), Lines.of(1, 0, 0, 4, 22, 15, 33, 0, 33, 0)));
        span("y without a MARK: LOCAL 1 stays", h, 15, 1, is(0, 9, 1));
        span("x: up to 3", h, 15, 0, is(0, 3, 1));
        // neither has one: the LOCALS stay
        h = Due.analysed(1, 1, 0, 0, 1, 0, 0, 0, 7, 0, 0, 9, 22, 6, 33, 0, 33, 0);
        span("no MARK: the LOCAL stays", h, 6, 0, ALL);
        // the MARK is gone since another was put to the LOCAL
        h = Due.analysed(1, 1, 0, 0, 1, 0, 0, 5, 2, 0, 0, 9, 22, 6, 33, 0, 33, 0);
        span("a MARK that went: the LOCAL stays", h, 6, 0, is(5));
    }

    /** LOCAL 0 is x; it is compared with itself, and lies on the stack below. */
    private static void itself(int op, long[] x, long[] atA) {
        int[] put = Lines.join(Lines.make(x, 0), Lines.of(2, 0, 1, 0, 1, 0, 5, 0));
        int at = put.length / 2;
        AnalysisHouse h = Due.analysed(1, 1, 0, 0, Lines.join(put, Lines.of(op, at + 2, 33, 0, 33, 0)));
        String what = name(x) + " " + op + " itself";
        Due.due(what + ": come to", h.reached(0, at + 2), atA != null);
        if (atA != null) {
            span(what + ": the LOCAL", h, at + 2, 0, atA);
            span(what + ": the stack", h, at + 2, 10, atA);
        }
    }

    private static void oneMark() {
        Due.of("of one MARK as x is WITHIN y's low .. high then (NOTHING: that way is not come to).");
        for (int op : new int[] {20, 23, 25}) {
            itself(op, is(0, 9, 1), is(0, 9, 1));
            itself(op, is(4), is(4));
        }
        itself(21, is(0, 9, 1), is(0, 9, 1));
        itself(21, is(4), null);
        for (int op : new int[] {22, 24}) {
            itself(op, is(0, 9, 1), is(1, 8, 1));
            itself(op, is(0, 2, 1), is(1));
            itself(op, is(0, 1, 1), null);
            itself(op, is(4), null);
            itself(op, is(0, 20, 5), is(5, 15, 5));
            itself(op, is(0, 5, 5), null);
            itself(op, ALL, is(MIN + 1, MAX - 1, 1));
        }
    }

    /** METHOD 0 calls METHOD 1 with each of the sizes; METHOD 1 makes an ARRAY, puts v there and gives it back. */
    private static AnalysisHouse makers(int v, int... sizes) {
        AnalysisHouse h = new AnalysisHouse();
        h.method(0, 0, 0, 0);
        for (int size : sizes) {
            Due.code(h, 0, 0, size, 32, 1, 4, 0);
        }
        h.code(0, 33, 0);
        h.method(1, 2, 2, 2);
        Due.code(h, 1, 1, 0, 28, 0, 2, 1, 1, 1, 0, 0, 0, v, 31, 0, 1, 1, 33, 0);
        h.build();
        h.analyze(1);
        return h;
    }

    private static void site(String what, AnalysisHouse h, int s, int from, long[] want) {
        Due.due(what + " low", h.site(s, from), want[0]);
        Due.due(what + " high", h.site(s, from + 1), want[1]);
        Due.due(what + " STRIDE", h.site(s, from + 2), want[2]);
    }

    private static void newArrays() {
        Due.of("28: a SET of its SITE; the LENGTH of that is BOTH of it and i WITHIN 0 on; the ELEMENT BOTH and 0.");
        AnalysisHouse h = makers(5, 3);
        site("one LENGTH", h, 1, 0, is(3));
        site("0 and 5", h, 1, 3, is(0, 5, 5));
        Due.set("of its SITE, not null", h, Due.at(1, 2, 10), 2, false);
        Due.due("no MARK", h.state(1, 2, 10, 5), Due.NONE);
        site("two LENGTHS", makers(5, 3, 9), 1, 0, is(3, 9, 6));
        site("0 among them", makers(0, 9, 0), 1, 0, is(0, 9, 9));
        site("0 alone is put", makers(0, 2), 1, 3, is(0));
        sized("from below 0", is(-5, 3, 1), is(0, 3, 1));
        sized("up to 0", is(-5, 0, 1), is(0));
        sized("by a STRIDE that leaves 0 out", is(-6, 6, 4), is(2, 6, 4));
        sized("the greatest", is(MAX), is(MAX));
        sized("all", ALL, is(0, MAX, 1));
        sized("-1", is(-1), null);
        sized("all below 0", is(-9, -3, 1), null);
        h = Due.analysed(0, 0, 0, 0, 0, 4, 28, 0, 33, 0);
        site("no element was put", h, 1, 3, is(0));
    }

    /** LOCAL 1 is the size, and lies on the stack, too. */
    private static AnalysisHouse sized(String what, long[] size, long[] want) {
        int[] put = Lines.join(Lines.make(size, 0), Lines.of(2, 1, 1, 1, 1, 1));
        int at = put.length / 2;
        AnalysisHouse h = Due.analysed(1, 2, 0, 0, Lines.join(put, Lines.of(28, 0, 33, 0)));
        Due.due(what + ": a STEP", h.reached(0, at + 1), want != null);
        if (want == null) {
            Due.due(what + ": LENGTH", h.site(1, 0), Due.NO);
            Due.due(what + ": ELEMENT", h.site(1, 3), Due.NO);
        } else {
            site(what + ": LENGTH", h, 1, 0, want);
            span(what + ": the LOCAL", h, at + 1, 1, want);
            span(what + ": the stack", h, at + 1, 10, want);
        }
        return h;
    }

    private static void sizesBehind() {
        Due.of("behind 28 i is WITHIN 0 on");
        AnalysisHouse h = Due.analysed(1, 1, 0, 0, 1, 0, 0, 0, 7, 0, 28, 0, 33, 0);
        span("no MARK: the LOCAL stays", h, 4, 0, ALL);
        h = Due.analysed(2, 2, 0, 0, 1, 1, 1, 0, 28, 0, 33, 0);
        span("its LOCAL", h, 3, 0, is(0, MAX, 1));
        span("another LOCAL", h, 3, 1, ALL);
        span("another MARK's place", h, 3, 10, ALL);
    }

    private static final int[] NULL = {3, 0};
    private static final int[] FOUR = {0, 4, 28, 0};
    private static final int[] TEN = {0, 10, 28, 0};
    private static final int[] NO_INTS = {0, 0, 28, 0};
    private static final int[] GIVEN = {1, 2};

    /** LOCAL 3 is one of these ARRAYS; LOCALS 0, 1 and 2 are arguments: two INTS, an ARRAY. */
    private static AnalysisHouse oneOf(int[][] makers, int... lines) {
        return Due.analysed(3, 4, 12, 0, Lines.join(Lines.oneOf(3, makers), lines));
    }

    private static int after(int[][] makers) {
        return Lines.oneOf(3, makers).length / 2;
    }

    private static int[][] of(int[]... makers) {
        return makers;
    }

    private static void length(String what, int[][] makers, long[] want) {
        AnalysisHouse h = oneOf(makers, 1, 3, 29, 0, 33, 0);
        span(what, h, after(makers) + 2, 10, want);
        Due.due(what + ": no MARK", h.state(0, after(makers) + 2, 10, 5), Due.NONE);
    }

    private static void lengths() {
        Due.of("29: BOTH of the LENGTHS of its SITES.");
        length("4", of(FOUR), is(4));
        length("0", of(NO_INTS), is(0));
        AnalysisHouse h = Due.analysed(0, 0, 0, 0, 0, 0, 28, 0, 29, 0, 33, 0);
        span("0, at once", h, 3, 10, is(0));
        length("OUTSIDE", of(GIVEN), is(0, MAX, 1));
        length("4 or 10", of(FOUR, TEN), is(4, 10, 6));
        length("10 or 4", of(TEN, FOUR), is(4, 10, 6));
        length("4, 10 or 0", of(FOUR, TEN, NO_INTS), is(0, 10, 2));
        length("null or 4", of(NULL, FOUR), is(4));
        length("OUTSIDE or 4", of(GIVEN, FOUR), is(0, MAX, 1));
        length("the greatest", of(Lines.of(0, MAX, 28, 0)), is(MAX));
    }

    private static int[] holding(int length, int v) {
        return Lines.of(0, length, 28, 0, 5, 0, 0, 0, 0, v, 31, 0);
    }

    private static void element(String what, int[][] makers, long[] want) {
        AnalysisHouse h = oneOf(makers, 1, 3, 0, 0, 30, 0, 33, 0);
        span(what, h, after(makers) + 3, 10, want);
        Due.due(what + ": no MARK", h.state(0, after(makers) + 3, 10, 5), Due.NONE);
    }

    private static void elements() {
        Due.of("30: BOTH of the ELEMENTS.");
        element("none was put", of(FOUR), is(0));
        element("0 and 6", of(holding(4, 6)), is(0, 6, 6));
        element("0 and the least", of(holding(4, MIN)), is(MIN, 0, 2147483648L));
        element("0 and 6, or 0 and -4", of(holding(4, 6), holding(10, -4)), is(-4, 6, 2));
        element("null, or 0 and 6", of(NULL, holding(4, 6)), is(0, 6, 6));
        element("OUTSIDE", of(GIVEN), ALL);
        element("OUTSIDE, or 0 and 6", of(GIVEN, holding(4, 6)), ALL);
    }

    private static void puts() {
        Due.of("31: ELEMENTS of all its SITES become BOTH of them and j.");
        // SITE 3 is another one, which nothing is put to
        AnalysisHouse h = oneOf(of(FOUR, NULL, TEN, GIVEN), 0, 2, 28, 0, 4, 0, 1, 3, 0, 1, 0, 7, 31, 0, 33, 0);
        site("the first", h, 1, 3, is(0, 7, 7));
        site("the second", h, 2, 3, is(0, 7, 7));
        site("another one", h, 3, 3, is(0));
        site("OUTSIDE", h, 0, 3, ALL);
        site("LENGTH of the first", h, 1, 0, is(4));
        h = oneOf(of(FOUR), 1, 3, 0, 1, 0, 7, 31, 0, 1, 3, 0, 1, 0, -7, 31, 0, 33, 0);
        site("7 and -7", h, 1, 3, is(-7, 7, 7));
        // what is put is told as the STATE tells it, though it is the index as well, which is narrowed
        h = oneOf(of(FOUR), 1, 3, 1, 1, 1, 1, 31, 0, 33, 0);
        site("all", h, 1, 3, ALL);
    }

    /** Uses LOCAL 2, an argument, by 29, 30 or 31 with index 0, while it lies on the stack. */
    private static int[] using(int op) {
        return op == 29 ? Lines.of(1, 2, 29, 0, 4, 0) : op == 30 ? Lines.of(1, 2, 0, 0, 30, 0, 4, 0)
            : Lines.of(1, 2, 0, 0, 0, 1, 31, 0);
    }

    private static void arraysBehind() {
        Due.of("Behind 29 to 31 the ARRAY is without null,");
        for (int op = 29; op <= 31; op++) {
            int[] lines = Lines.join(Lines.of(1, 2, 1, 1), using(op), Lines.of(33, 0));
            AnalysisHouse h = Due.analysed(3, 3, 6, 0, lines);
            int end = lines.length / 2 - 1;
            Due.set(op + ": the LOCAL", h, Due.at(0, end, 2), 1, false);
            Due.set(op + ": its place of the stack", h, Due.at(0, end, 10), 1, false);
            Due.due(op + ": its MARK stays", h.state(0, end, 10, 5), 2);
            Due.set(op + ": another LOCAL", h, Due.at(0, end, 1), 1, true);
            span(op + ": a LOCAL that is an INT", h, end, 0, ALL);
            Due.set(op + ": another MARK's place", h, Due.at(0, end, 11), 1, true);
            // a LOCAL that another one was put to has no MARK any more
            lines = Lines.join(Lines.of(1, 2, 1, 1, 2, 2), using(op), Lines.of(33, 0));
            h = Due.analysed(3, 3, 6, 0, lines);
            Due.set(op + ": what had its MARK once", h, Due.at(0, lines.length / 2 - 1, 10), 1, true);
        }
    }

    /** LOCAL 1 is the index, and lies on the stack; LOCAL 3 the ARRAY. */
    private static void index(String what, int[][] makers, long[] index, long[] want) {
        for (int op = 30; op <= 31; op++) {
            int[] use = op == 30 ? Lines.of(30, 0) : Lines.of(0, 55, 31, 0);
            int[] lines = Lines.join(Lines.make(index, 1), Lines.of(2, 1, 1, 1, 1, 3, 1, 1), use);
            AnalysisHouse h = oneOf(makers, Lines.join(lines, Lines.of(33, 0)));
            int end = after(makers) + lines.length / 2;
            Due.due(what + " " + op + ": a STEP", h.reached(0, end), want != null);
            if (want != null) {
                span(what + " " + op + ": the LOCAL", h, end, 1, want);
                span(what + " " + op + ": the stack", h, end, 10, want);
            }
        }
    }

    private static void indexesBehind() {
        Due.of("behind 30, 31 i WITHIN 0 .. the greatest high of the LENGTHS less 1,");
        index("of 4", of(FOUR), ALL, is(0, 3, 1));
        index("of 4 or 10", of(FOUR, TEN), ALL, is(0, 9, 1));
        index("of 10 or 4", of(TEN, FOUR), ALL, is(0, 9, 1));
        index("of 4, null or none", of(FOUR, NULL, NO_INTS), ALL, is(0, 3, 1));
        index("of OUTSIDE", of(GIVEN), ALL, is(0, MAX - 1, 1));
        index("of one", of(Lines.of(0, 1, 28, 0)), ALL, is(0));
        index("of 1 .. 8", of(Lines.of(1, 0, 0, 7, 12, 0, 0, 1, 7, 0, 28, 0)), ALL, is(0, 7, 1));
        index("by a STRIDE", of(TEN), is(-8, 16, 4), is(0, 8, 4));
        index("by a STRIDE, its last is the last", of(TEN), is(1, 17, 8), is(1, 9, 8));
        index("up to 0", of(FOUR), is(-9, 0, 1), is(0));
        index("from the last on", of(FOUR), is(3, 9, 1), is(3));
        AnalysisHouse h = oneOf(of(FOUR), 1, 3, 1, 1, 0, 0, 7, 0, 30, 0, 33, 0);
        span("no MARK: the LOCAL stays", h, after(of(FOUR)) + 5, 1, ALL);
    }

    private static void noStep() {
        Due.of("(before all else: NOTHING: no STEP, also without a SITE)");
        for (int op = 29; op <= 31; op++) {
            int[] lines = op == 29 ? Lines.of(1, 3, 29, 0) : op == 30 ? Lines.of(1, 3, 0, 0, 30, 0)
                : Lines.of(1, 3, 0, 0, 0, 0, 31, 0);
            AnalysisHouse h = oneOf(of(NULL), Lines.join(lines, Lines.of(33, 0)));
            int end = after(of(NULL)) + lines.length / 2;
            Due.due(op + " of null: come to", h.reached(0, end - 1), true);
            Due.due(op + " of null: no STEP", h.reached(0, end), false);
        }
        index("-1", of(FOUR, GIVEN), is(-1), null);
        index("all below 0", of(FOUR, GIVEN), is(-9, -1, 1), null);
        index("at the LENGTH", of(FOUR), is(4), null);
        index("at the greater LENGTH", of(FOUR, TEN), is(10), null);
        index("from the LENGTH on", of(FOUR), is(4, 9, 1), null);
        index("between, by a STRIDE", of(FOUR), is(-1, 9, 5), null);
        index("an ARRAY of none", of(NO_INTS), ALL, null);
        index("the greatest of OUTSIDE", of(GIVEN), is(MAX), null);
        AnalysisHouse h = oneOf(of(FOUR), 1, 3, 0, 4, 0, 99, 31, 0, 33, 0);
        site("no STEP, so nothing is put", h, 1, 3, is(0));
    }

    private static void calls() {
        Due.of("32: ARGUMENTS come to PLACE 0 of METHOD a (other LOCALS 0, null; no stack);");
        AnalysisHouse h = new AnalysisHouse();
        h.method(2, 2, 2, 0);
        h.method(3, 6, 34, 0);
        h.code(1, 33, 0);
        h.method(0, 2, 2, 0);
        h.code(2, 33, 0);
        Due.code(h, 0, 1, 0, 0, 5, 1, 1, 0, 7, 32, 1, 32, 2, 33, 0);
        h.build();
        h.analyze(1);
        Due.span("ARGUMENT 0", h, Due.at(1, 0, 0), 5, 5, 0);
        Due.set("ARGUMENT 1", h, Due.at(1, 0, 1), 1, true);
        Due.span("ARGUMENT 2", h, Due.at(1, 0, 2), 7, 7, 0);
        Due.span("another INT", h, Due.at(1, 0, 3), 0, 0, 0);
        Due.span("another INT", h, Due.at(1, 0, 4), 0, 0, 0);
        Due.set("another ARRAY", h, Due.at(1, 0, 5), 0, true);
        Due.due("no stack", h.state(1, 0, 10, 0), Due.NO);
        // LOCALS of METHOD 2 that are ARGUMENTS of METHOD 0
        Due.span("no ARGUMENT: 0", h, Due.at(2, 0, 0), 0, 0, 0);
        Due.set("no ARGUMENT: null", h, Due.at(2, 0, 1), 0, true);
        Due.span("below the ARGUMENTS", h, Due.at(0, 5, 10), MIN, MAX, 1);
        Due.due("its MARK stays", h.state(0, 5, 10, 5), 0);
        Due.due("nothing else", h.state(0, 5, 11, 0), Due.NO);
    }

    private static AnalysisHouse calling(int result, int... lines) {
        AnalysisHouse h = new AnalysisHouse();
        h.method(0, 0, 0, 0);
        Due.code(h, 0, 0, 8, 32, 1, 33, 0);
        h.method(0, 0, 0, result);
        Due.code(h, 1, lines);
        h.build();
        h.analyze(1);
        return h;
    }

    private static void callsThatDoNotReturn() {
        Due.of("behind it as it may return, with the RESULT; not come to while it can not.");
        AnalysisHouse h = calling(1, 0, 3, 33, 0);
        span("the RESULT", h, 2, 11, is(3));
        Due.due("its MARK", h.state(0, 2, 11, 5), Due.NONE);
        span("below it", h, 2, 10, is(8));
        h = calling(2, 3, 0, 33, 0);
        Due.set("an ARRAY", h, Due.at(0, 2, 11), 0, true);
        h = calling(0, 0, 3, 33, 0);
        Due.due("without a RESULT it is come to", h.reached(0, 2), true);
        Due.due("and nothing is put", h.state(0, 2, 11, 0), Due.NO);
        Due.due("for ever", calling(0, 19, 0).reached(0, 2), false);
        Due.due("always wrong", calling(0, 0, 1, 0, 0, 10, 0, 33, 0).reached(0, 2), false);
        h = calling(0, 32, 1, 33, 0);
        Due.due("deeper for ever: it is called", h.reached(1, 0), true);
        Due.due("deeper for ever", h.reached(0, 2), false);
        Due.due("deeper for ever within", h.reached(1, 1), false);
    }

    private static void returns() {
        Due.of("33: the RESULT becomes BOTH.");
        // 3 = 3: the first 33 is not come to
        AnalysisHouse h = calling(1, 0, 3, 0, 3, 20, 5, 0, 5, 33, 0, 0, 9, 33, 0);
        Due.due("one way: low", h.result(1, 0), 9);
        Due.due("one way: high", h.result(1, 1), 9);
        Due.due("one way: STRIDE", h.result(1, 2), 0);
        h = Due.analysed(1, 1, 0, 1, 1, 0, 0, 0, 20, 5, 0, 3, 33, 0, 0, 9, 33, 0);
        Due.due("two ways: low", h.result(0, 0), 3);
        Due.due("two ways: high", h.result(0, 1), 9);
        Due.due("two ways: STRIDE", h.result(0, 2), 6);
        h = Due.analysed(1, 1, 1, 2, 1, 0, 26, 4, 1, 0, 33, 0, 0, 2, 28, 0, 33, 0);
        Due.due("not null, or a new one: SITES", h.result(0, 3), 3);
        Due.due("not null, or a new one: null", h.result(0, 4), 0);
        h = Due.analysed(1, 1, 1, 2, 1, 0, 26, 5, 0, 2, 28, 0, 33, 0, 3, 0, 33, 0);
        Due.due("a new one, or null: SITES", h.result(0, 3), 2);
        Due.due("a new one, or null: null", h.result(0, 4), 1);
    }

    private static void fieldOf(String what, AnalysisHouse h, int f, long[] want) {
        Due.due(what + " low", h.field(f, 0), want[0]);
        Due.due(what + " high", h.field(f, 1), want[1]);
        Due.due(what + " STRIDE", h.field(f, 2), want[2]);
    }

    private static void fields() {
        Due.of("34: the FIELD; 35: it becomes BOTH.");
        AnalysisHouse h = Due.analysed(0, 0, 0, 0, 34, 3, 0, 12, 35, 3, 0, -8, 35, 3, 0, MIN, 35, 0, 33, 0);
        fieldOf("0, 12 and -8", h, 3, is(-8, 12, 4));
        fieldOf("0 and the least", h, 0, is(MIN, 0, 2147483648L));
        fieldOf("nothing was put", h, 1, is(0));
        fieldOf("nothing was put", h, 2, is(0));
        span("a 34 before the 35s", h, 1, 10, is(-8, 12, 4));
        Due.due("no MARK", h.state(0, 1, 10, 5), Due.NONE);
        h = Due.analysed(0, 0, 0, 0, 33, 0, 0, 5, 35, 0);
        fieldOf("a 35 that is not come to", h, 0, is(0));
    }
}
