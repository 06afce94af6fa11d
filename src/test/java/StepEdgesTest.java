/** The edges of THE STEP of 0 to 18 that 'Terms' names, sentence by sentence. */
public final class StepEdgesTest {
    private static final int MIN = Integer.MIN_VALUE;
    private static final int MAX = Integer.MAX_VALUE;
    private static final long HALF = 2147483648L;
    private static final long[] ALL = Lines.ALL;

    public static void main(String[] args) {
        moves();
        sums();
        negations();
        productsByOne();
        productsOfRows();
        shiftsLeft();
        quotientsOfParts();
        quotientsOfOnes();
        quotientsOfTheLeast();
        quotientsElse();
        remaindersBelow();
        remaindersElse();
        ands();
        orsAndXors();
        shiftsRight();
        shiftsBareByNone();
        shiftsBare();
        stridesOfThese();
        divisorsBehind();
        divisorsOfZero();
        Due.end("StepEdgesTest");
    }

    private static long[] is(long... span) {
        return Lines.is(span);
    }

    private static String name(long[] span) {
        return span[0] + " .. " + span[1] + " by " + span[2];
    }

    private static void span(String what, AnalysisHouse h, int place, int slot, long[] want) {
        Due.span(what, h, Due.at(0, place, slot), want[0], want[1], want[2]);
    }

    private static void op(int op, long[] x, long[] y, long[] want) {
        // something else is reckoned in between, and is gone when it is due
        int[] between = Lines.of(0, 777, 18, 0, 4, 0);
        int[] lines = Lines.join(Lines.make(x, 0), Lines.make(y, 1), between, Lines.of(op, 0, 33, 0));
        AnalysisHouse h = Due.analysed(2, 2, 0, 0, lines);
        int end = lines.length / 2 - 1;
        String what = name(x) + " " + op + " " + name(y);
        span(what + ", x", h, end - 1, 10, x);
        span(what + ", y", h, end - 1, 11, y);
        span(what, h, end, 10, want);
        Due.due(what + ", its MARK", h.state(0, end, 10, 5), Due.NONE);
    }

    private static void moves() {
        Due.of("0 low = high = a. 1 as the LOCAL, with its MARK.");
        AnalysisHouse h = Due.analysed(1, 2, 0, 0, 0, MIN, 0, MAX, 1, 0, 1, 1, 33, 0);
        span("the least", h, 4, 10, is(MIN));
        span("the greatest", h, 4, 11, is(MAX));
        span("LOCAL 0", h, 4, 12, ALL);
        Due.due("its MARK", h.state(0, 4, 12, 5), 0);
        span("LOCAL 1", h, 4, 13, is(0));
        Due.due("its MARK", h.state(0, 4, 13, 5), 1);
        Due.of("2 the LOCAL is that; MARKS of it on the stack go.");
        h = Due.analysed(2, 2, 0, 0, 1, 0, 1, 1, 1, 0, 0, 5, 2, 0, 33, 0);
        span("the LOCAL", h, 5, 0, is(5));
        span("the other LOCAL", h, 5, 1, ALL);
        Due.due("the lowest had its MARK", h.state(0, 5, 10, 5), Due.NONE);
        Due.due("another MARK stays", h.state(0, 5, 11, 5), 1);
        Due.due("the upper one had its MARK", h.state(0, 5, 12, 5), Due.NONE);
        span("what lies there stays as it is", h, 5, 10, ALL);
        // what a LOCAL held is put back to it: the MARKS go all the same
        h = Due.analysed(2, 2, 0, 0, 1, 0, 1, 0, 2, 0, 33, 0);
        Due.due("put back", h.state(0, 3, 10, 5), Due.NONE);
        h = Due.analysed(2, 2, 0, 0, 1, 0, 1, 0, 2, 1, 33, 0);
        Due.due("put to another LOCAL", h.state(0, 3, 10, 5), 0);
        Due.of("5 both have the MARK (6: each its own).");
        h = Due.analysed(2, 2, 0, 0, 1, 1, 5, 0, 0, 3, 6, 0, 33, 0);
        Due.due("5: the lower", h.state(0, 2, 10, 5), 1);
        Due.due("5: the upper", h.state(0, 2, 11, 5), 1);
        Due.due("6: the upper", h.state(0, 4, 12, 5), 1);
        Due.due("6: the lower", h.state(0, 4, 11, 5), Due.NONE);
        Due.due("6: what lies below", h.state(0, 4, 10, 5), 1);
        span("6: the upper", h, 4, 12, ALL);
        span("6: the lower", h, 4, 11, is(3));
        h = Due.analysed(2, 2, 0, 0, 0, 3, 1, 1, 1, 0, 6, 0, 33, 0);
        Due.due("6 of two MARKS: the upper", h.state(0, 4, 12, 5), 1);
        Due.due("6 of two MARKS: the lower", h.state(0, 4, 11, 5), 0);
        Due.due("6 of two MARKS: what lies below", h.state(0, 4, 10, 5), Due.NONE);
        h = Due.analysed(0, 0, 0, 0, 0, 3, 0, 5, 6, 0, 33, 0);
        span("6 without LOCALS: the upper", h, 3, 11, is(3));
        span("6 without LOCALS: the lower", h, 3, 10, is(5));
        h = Due.analysed(2, 2, 0, 0, 0, 3, 5, 0, 33, 0);
        Due.due("5 without: the lower", h.state(0, 2, 10, 5), Due.NONE);
        Due.due("5 without: the upper", h.state(0, 2, 11, 5), Due.NONE);
    }

    private static void sums() {
        Due.of("7, 8: TURNED of the sums (x's low less y's high, and so on), s the greatest common divisor of both "
            + "STRIDES.");
        op(7, is(0, 10, 2), is(0, 9, 3), is(0, 19, 1));
        op(7, is(0, 12, 6), is(-4, 4, 4), is(-4, 16, 2));
        op(7, is(0, 12, 6), is(5), is(5, 17, 6));
        op(7, is(5), is(0, 12, 6), is(5, 17, 6));
        op(8, is(0, 10, 5), is(0, 4, 2), is(-4, 10, 1));
        op(8, is(0, 12, 6), is(-4, 4, 4), is(-4, 16, 2));
        op(8, is(7), is(0, 12, 6), is(-5, 7, 6));
        op(8, is(0, 12, 6), is(7), is(-7, 5, 6));
        op(8, is(0, 6, 3), is(0, 6, 3), is(-6, 6, 3));
        op(8, is(MIN), is(1), is(MAX));
        op(7, is(MAX), is(1), is(MIN));
        op(8, is(-1), ALL, ALL);
        op(8, is(MIN), is(0, 4, 4), is(MIN, MAX - 3, 4));
    }

    private static void negate(long[] x, long[] want) {
        int[] lines = Lines.join(Lines.make(x, 0), Lines.of(18, 0, 33, 0));
        AnalysisHouse h = Due.analysed(2, 2, 0, 0, lines);
        span("0 less " + name(x), h, lines.length / 2 - 1, 10, want);
        Due.due("its MARK", h.state(0, lines.length / 2 - 1, 10, 5), Due.NONE);
    }

    private static void negations() {
        Due.of("18: as 0 less it.");
        negate(is(0), is(0));
        negate(is(7), is(-7));
        negate(is(MIN), is(MIN));
        negate(is(MAX), is(MIN + 1));
        negate(is(3, 11, 4), is(-11, -3, 4));
        negate(is(-3, 12, 5), is(-12, 3, 5));
        negate(is(MIN + 1, 0, 1), is(0, MAX, 1));
        negate(is(MIN, MIN + 4, 4), is(MIN, MAX - 3, 4));
        negate(is(MIN, MIN + 3, 3), ALL);
        negate(ALL, ALL);
        // what lies below is not y
        AnalysisHouse h = Due.analysed(0, 0, 0, 0, 0, 100, 0, 7, 18, 0, 33, 0);
        span("below", h, 3, 10, is(100));
        span("on top", h, 3, 11, is(-7));
    }

    private static void productsByOne() {
        Due.of("9: if one is low = high = c: TURNED of c times the other's (s is its STRIDE by c without sign; c 0: 0);");
        op(9, is(0, 10, 5), is(0), is(0));
        op(9, is(0), is(0, 10, 5), is(0));
        op(9, ALL, is(0), is(0));
        op(9, is(0), is(MIN), is(0));
        op(9, is(0, 10, 5), is(1), is(0, 10, 5));
        op(9, is(0, 10, 5), is(-1), is(-10, 0, 5));
        op(9, is(-1), is(0, 10, 5), is(-10, 0, 5));
        op(9, is(0, 10, 5), is(-3), is(-30, 0, 15));
        op(9, is(3), is(-10, 10, 5), is(-30, 30, 15));
        op(9, is(0, 1, 1), is(MIN), is(MIN, 0, HALF));
        op(9, is(0, 1, 1), is(MAX), is(0, MAX, MAX));
        op(9, is(0, 2, 2), is(MIN), is(0));
        op(9, is(1, 3, 2), is(MIN), is(MIN));
        op(9, is(0, 2, 1), is(MIN), is(MIN, 0, HALF));
        op(9, is(MIN), is(-1), is(MIN));
        op(9, is(1, 2, 1), is(1 << 30), is(MIN, 1 << 30, 1 << 30));
        op(9, ALL, is(-1), ALL);
        op(9, ALL, is(3), ALL);
        op(9, ALL, is(6), is(MIN, MAX - 1, 2));
    }

    private static void productsOfRows() {
        Due.of("else TURNED of the least and greatest of the four products of lows and highs, s 1.");
        op(9, is(2, 4, 2), is(3, 9, 3), is(6, 36, 1));
        op(9, is(-3, 5, 1), is(-7, 2, 1), is(-35, 21, 1));
        op(9, is(-5, 3, 1), is(-2, 7, 1), is(-35, 21, 1));
        op(9, is(-7, -2, 1), is(-5, -3, 1), is(6, 35, 1));
        op(9, is(-7, -2, 1), is(3, 5, 1), is(-35, -6, 1));
        op(9, is(3, 5, 1), is(-7, -2, 1), is(-35, -6, 1));
        op(9, is(0, 1, 1), is(0, 1, 1), is(0, 1, 1));
        op(9, is(-1, 0, 1), is(MIN, -1, 1), ALL);
        op(9, is(-1, 0, 1), is(MIN + 1, 0, 1), is(0, MAX, 1));
        op(9, is(0, 1, 1), is(MIN, -1, 1), is(MIN, 0, 1));
        op(9, ALL, ALL, ALL);
    }

    private static void shiftsLeft() {
        Due.of("15 with j a single one: as 9 by 2^(its lowest 5 bits); else ALL.");
        long[] threes = is(0, 6, 3);
        op(15, threes, is(0), threes);
        op(15, threes, is(1), is(0, 12, 6));
        op(15, threes, is(32), threes);
        op(15, threes, is(33), is(0, 12, 6));
        op(15, threes, is(-32), threes);
        op(15, threes, is(-31), is(0, 12, 6));
        op(15, threes, is(MIN), threes);
        op(15, is(0, 1, 1), is(30), is(0, 1 << 30, 1 << 30));
        op(15, is(0, 1, 1), is(31), is(MIN, 0, HALF));
        op(15, is(-1, 0, 1), is(31), is(MIN, 0, HALF));
        op(15, is(0, 2, 2), is(31), is(0));
        op(15, is(1, 3, 2), is(MAX), is(MIN));
        op(15, is(1), is(31), is(MIN));
        op(15, is(-1), is(-1), is(MIN));
        op(15, ALL, is(31), is(MIN, 0, HALF));
        op(15, is(0), is(0, 1, 1), ALL);
        op(15, is(1), is(0, 32, 32), ALL);
    }

    private static void quotientsOfParts() {
        Due.of("10: y without 0: its parts below and above 0 (WITHIN);");
        op(10, is(7, 9, 1), is(-1, 1, 1), is(-9, 9, 1));
        op(10, is(12, 24, 12), is(-3, 4, 1), is(-24, 24, 1));
        op(10, is(12, 24, 12), is(-6, 4, 5), is(-24, 6, 1));
        op(10, is(12, 24, 12), is(-4, 6, 10), is(-6, 4, 1));
        op(10, is(12, 24, 12), is(0, 4, 2), is(3, 12, 1));
        op(10, is(12, 24, 12), is(-4, 0, 2), is(-12, -3, 1));
        op(10, is(12, 24, 12), is(-3, 3, 3), is(-8, 8, 1));
        op(10, is(12, 24, 12), ALL, is(-24, 24, 1));
    }

    private static void quotientsOfOnes() {
        Due.of("both single: what it is; x's low the least INT and -1 in y: ALL;");
        op(10, is(7), is(2), is(3));
        op(10, is(-7), is(2), is(-3));
        op(10, is(0), is(-5), is(0));
        op(10, is(MIN), is(-1), is(MIN));
        op(10, is(MIN), is(1), is(MIN));
        op(10, is(MIN), is(MIN), is(1));
        op(10, is(MAX), is(MIN), is(0));
        op(10, is(MAX), is(-1), is(MIN + 1));
        op(10, is(MIN), is(2), is(-(1 << 30)));
    }

    private static void quotientsOfTheLeast() {
        Due.of("x's low the least INT and -1 in y: ALL;");
        op(10, is(MIN, MIN + 1, 1), is(-1), ALL);
        op(10, is(MIN + 1, MIN + 2, 1), is(-1), is(MAX - 1, MAX, 1));
        op(10, is(MIN), is(-2, -1, 1), ALL);
        op(10, is(MIN), is(-3, -2, 1), is(715827882, 1 << 30, 1));
        op(10, is(MIN), is(-1, 5, 1), ALL);
        op(10, is(MIN), is(-3, 3, 2), ALL);
        op(10, is(MIN), is(-4, 4, 2), is(-(1 << 30), 1 << 30, 1));
        op(10, is(MIN), is(-3, 3, 3), is(-715827882, 715827882, 1));
        op(10, is(MIN), is(-5, 5, 10), is(-429496729, 429496729, 1));
        op(10, is(MIN, 0, HALF), is(-1), ALL);
        op(10, ALL, is(-1), ALL);
        op(10, ALL, ALL, ALL);
    }

    private static void quotientsElse() {
        Due.of("else the least .. greatest of x's low, high / by each end of each part, STRIDE 1 (0 if one).");
        op(10, is(10, 30, 10), is(10), is(1, 3, 1));
        op(10, is(10, 11, 1), is(4), is(2));
        op(10, is(-3, 3, 1), is(4), is(0));
        op(10, is(-3, 3, 1), is(4, 9, 1), is(0));
        op(10, is(10), is(3, 4, 1), is(2, 3, 1));
        op(10, is(10), is(6, 10, 1), is(1));
        op(10, is(-10, -5, 1), is(2, 5, 1), is(-5, -1, 1));
        op(10, is(-10, -5, 1), is(-5, -2, 1), is(1, 5, 1));
        op(10, is(-10, 5, 1), is(-5, -2, 1), is(-2, 5, 1));
        op(10, ALL, is(1), ALL);
        op(10, ALL, is(MIN), is(0, 1, 1));
        op(10, ALL, is(MAX), is(-1, 1, 1));
        op(10, is(0), is(1, 5, 1), is(0));
    }

    private static void remaindersBelow() {
        Due.of("11: both single: what it is; with n the least, m the greatest size in y's parts: if all sizes of x are "
            + "below n: x;");
        op(11, is(7), is(4), is(3));
        op(11, is(-7), is(4), is(-3));
        op(11, is(7), is(-4), is(3));
        op(11, is(MIN), is(-1), is(0));
        op(11, is(MIN), is(MAX), is(-1));
        op(11, is(MIN), is(MIN), is(0));
        op(11, is(-4, 4, 4), is(5), is(-4, 4, 4));
        op(11, is(-4, 4, 4), is(-5), is(-4, 4, 4));
        op(11, is(-4, 4, 4), is(4), is(-3, 3, 1));
        op(11, is(-4, 4, 4), is(5, 9, 4), is(-4, 4, 4));
        op(11, is(-4, 4, 4), is(4, 9, 5), is(-4, 4, 1));
        op(11, is(-4, 4, 4), is(-9, -5, 4), is(-4, 4, 4));
        op(11, is(-4, 4, 4), is(-9, -4, 5), is(-4, 4, 1));
        op(11, is(-4, 4, 4), is(-6, 5, 11), is(-4, 4, 4));
        op(11, is(-4, 4, 4), is(-5, 6, 11), is(-4, 4, 4));
        op(11, is(-4, 4, 4), is(-4, 7, 11), is(-4, 4, 1));
        op(11, is(-4, 4, 4), is(-7, 4, 11), is(-4, 4, 1));
        op(11, is(-5, 3, 8), is(5), is(-4, 3, 1));
        op(11, is(-3, 5, 8), is(5), is(-3, 4, 1));
        op(11, is(-4, 4, 4), is(-5, 5, 5), is(-4, 4, 4));
        op(11, is(0), is(1, 9, 1), is(0));
        op(11, is(MIN + 1, MIN + 3, 2), is(MIN), is(MIN + 1, MIN + 3, 2));
        op(11, is(MIN, MIN + 2, 2), is(MIN), is(MIN + 1, 0, 1));
    }

    private static void remaindersElse() {
        Due.of("else from (x's low from 0 on: 0; else the greater of low and 1 - m) to (x's high up to 0: 0; else the "
            + "lesser of high and m - 1), STRIDE 1 (0 if one).");
        op(11, is(10, 90, 10), is(7), is(0, 6, 1));
        op(11, is(0, 90, 10), is(7), is(0, 6, 1));
        op(11, is(-90, -10, 10), is(7), is(-6, 0, 1));
        op(11, is(-90, 0, 10), is(7), is(-6, 0, 1));
        op(11, is(-90, 90, 10), is(7), is(-6, 6, 1));
        op(11, is(-3, 90, 1), is(7), is(-3, 6, 1));
        op(11, is(-90, 3, 1), is(7), is(-6, 3, 1));
        op(11, is(-1, 90, 1), is(7), is(-1, 6, 1));
        op(11, is(-90, 1, 1), is(7), is(-6, 1, 1));
        op(11, is(1, 90, 1), is(7), is(0, 6, 1));
        op(11, is(-90, -1, 1), is(7), is(-6, 0, 1));
        op(11, is(-6, 6, 1), is(7), is(-6, 6, 1));
        op(11, is(-7, 7, 7), is(7), is(-6, 6, 1));
        op(11, is(3, 5, 1), is(1), is(0));
        op(11, is(-5, -3, 1), is(-1), is(0));
        op(11, is(-5, 5, 1), is(-1, 1, 1), is(0));
        op(11, is(-90, 90, 10), is(-20, 7, 1), is(-19, 19, 1));
        op(11, is(-90, 90, 10), is(-7, 20, 1), is(-19, 19, 1));
        op(11, is(-90, 90, 10), is(0, 20, 1), is(-19, 19, 1));
        op(11, is(-90, 90, 10), is(-20, 0, 1), is(-19, 19, 1));
        op(11, is(100), is(7, 9, 2), is(0, 8, 1));
        op(11, is(-100), is(7, 9, 2), is(-8, 0, 1));
        op(11, ALL, is(2), is(-1, 1, 1));
        op(11, ALL, is(MIN), is(-MAX, MAX, 1));
        op(11, ALL, is(MAX), is(1 - MAX, MAX - 1, 1));
        op(11, ALL, ALL, is(-MAX, MAX, 1));
        op(11, is(MIN, 0, HALF), is(MIN, -1, 1), is(-MAX, 0, 1));
    }

    private static void ands() {
        Due.of("12 to 14: both single: what it is; 12: both from 0 on: 0 .. the lesser high; one: 0 .. its high;");
        op(12, is(12), is(10), is(8));
        op(12, is(-1), is(MIN), is(MIN));
        op(12, is(-4), is(7), is(4));
        op(12, is(4, 6, 2), is(3, 9, 1), is(0, 6, 1));
        op(12, is(3, 9, 1), is(4, 6, 2), is(0, 6, 1));
        op(12, is(0, 6, 2), is(0, 9, 1), is(0, 6, 1));
        op(12, is(-1, 5, 1), is(3, 9, 1), is(0, 9, 1));
        op(12, is(3, 9, 1), is(-1, 5, 1), is(0, 9, 1));
        op(12, is(3, 9, 1), is(-1), is(0, 9, 1));
        op(12, is(-1), is(3, 9, 1), is(0, 9, 1));
        op(12, is(0, 9, 9), is(-5, -3, 1), is(0, 9, 1));
        op(12, is(-5, -3, 1), is(0, 9, 9), is(0, 9, 1));
        op(12, is(0), is(-5, 5, 1), is(0));
        op(12, is(3, 9, 1), is(0), is(0));
        op(12, ALL, is(MAX), is(0, MAX, 1));
        op(12, is(-4, -2, 1), is(-3, -1, 1), ALL);
        op(12, is(-4, -2, 1), is(-1), ALL);
        op(12, is(-1, 0, 1), is(-1, 0, 1), ALL);
    }

    private static void orsAndXors() {
        Due.of("13, 14: both from 0 on: (13 the greater low, 14 0) .. the least 2^k - 1 that is no less than both highs; "
            + "else ALL;");
        op(13, is(12), is(10), is(14));
        op(14, is(12), is(10), is(6));
        op(13, is(MIN), is(MAX), is(-1));
        op(14, is(MIN), is(-1), is(MAX));
        for (int op = 13; op <= 14; op++) {
            int or = op == 13 ? 1 : 0;
            op(op, is(4, 6, 2), is(1, 2, 1), is(4 * or, 7, 1));
            op(op, is(1, 2, 1), is(4, 6, 2), is(4 * or, 7, 1));
            op(op, is(4, 7, 1), is(5), is(5 * or, 7, 1));
            op(op, is(4, 8, 4), is(5), is(5 * or, 15, 1));
            op(op, is(5), is(0, 8, 4), is(5 * or, 15, 1));
            op(op, is(0, 1, 1), is(0), is(0, 1, 1));
            op(op, is(0), is(1, 2, 1), is(or, 3, 1));
            op(op, is(0, MAX, 1), is(0), is(0, MAX, 1));
            op(op, is(0, 1 << 30, 1 << 30), is(1), is(or, MAX, 1));
            op(op, is(0, (1 << 30) - 1, 1), is(1), is(or, (1 << 30) - 1, 1));
            op(op, is(-1, 3, 1), is(0), ALL);
            op(op, is(0), is(-1, 3, 1), ALL);
            op(op, is(-1, 3, 1), is(-1, 3, 1), ALL);
            op(op, is(0, 3, 1), is(-1), ALL);
        }
        op(13, is(7), is(5, 7, 2), is(7));
    }

    private static void shiftsRight() {
        Due.of("16 by a single j: low and high shifted; else (x's low below 0: that; else 0) .. (high from 0 on: that; "
            + "else -1).");
        op(16, is(-5, 5, 5), is(0), is(-5, 5, 1));
        op(16, is(-5, 5, 5), is(1), is(-3, 2, 1));
        op(16, is(-5, 5, 5), is(31), is(-1, 0, 1));
        op(16, is(-5, 5, 5), is(32), is(-5, 5, 1));
        op(16, is(-5, 5, 5), is(33), is(-3, 2, 1));
        op(16, is(-5, 5, 5), is(-1), is(-1, 0, 1));
        op(16, is(4, 7, 1), is(2), is(1));
        op(16, is(MIN), is(31), is(-1));
        op(16, is(MAX), is(31), is(0));
        op(16, is(MIN), is(30), is(-2));
        op(16, is(-5, -3, 1), is(0, 1, 1), is(-5, -1, 1));
        op(16, is(-5, 0, 5), is(0, 1, 1), is(-5, 0, 1));
        op(16, is(-5, 4, 3), is(0, 1, 1), is(-5, 4, 1));
        op(16, is(0, 5, 5), is(0, 1, 1), is(0, 5, 1));
        op(16, is(3, 5, 1), is(0, 1, 1), is(0, 5, 1));
        op(16, is(0), is(0, 1, 1), is(0));
        op(16, is(-1), is(0, 1, 1), is(-1));
        op(16, is(-2), is(0, 1, 1), is(-2, -1, 1));
        op(16, is(1), is(0, 32, 32), is(0, 1, 1));
        op(16, ALL, ALL, ALL);
    }

    private static void shiftsBareByNone() {
        Due.of("17 by a single j of lowest bits 0: x;");
        for (int j : new int[] {0, 32, -32, 64, MIN}) {
            op(17, is(-5, 5, 5), is(j), is(-5, 5, 5));
            op(17, is(-10, -5, 5), is(j), is(-10, -5, 5));
            op(17, is(5, 10, 5), is(j), is(5, 10, 5));
            op(17, is(-5), is(j), is(-5));
        }
    }

    private static void shiftsBare() {
        Due.of("x from 0 on: as 16; all below 0 by a single one: low and high shifted; by a single k else: 0 .. 2^(32 - "
            + "k) - 1; else ALL.");
        op(17, is(0, 8, 4), is(1), is(0, 4, 1));
        op(17, is(4, 8, 4), is(33), is(2, 4, 1));
        op(17, is(4, 8, 4), is(-1), is(0));
        op(17, is(4, 8, 4), is(0, 1, 1), is(0, 8, 1));
        op(17, is(0), is(0, 1, 1), is(0));
        op(17, is(-4, -1, 3), is(1), is(MAX - 1, MAX, 1));
        op(17, is(-4, -1, 3), is(31), is(1));
        op(17, is(MIN, -1, 1), is(1), is(1 << 30, MAX, 1));
        op(17, is(MIN, -1, 1), is(31), is(1));
        op(17, is(MIN), is(1), is(1 << 30));
        op(17, is(-1), is(28), is(15));
        op(17, is(-4, 0, 4), is(1), is(0, MAX, 1));
        op(17, is(-4, 0, 4), is(31), is(0, 1, 1));
        op(17, is(-4, 8, 4), is(28), is(0, 15, 1));
        op(17, ALL, is(33), is(0, MAX, 1));
        op(17, is(-4, -1, 3), is(0, 1, 1), ALL);
        op(17, is(-4, 0, 4), is(0, 1, 1), ALL);
        op(17, is(-1), is(0, 32, 32), ALL);
    }

    private static void stridesOfThese() {
        Due.of("STRIDE 1 (0 if one) in all of these but x as it is.");
        op(16, is(0, 64, 64), is(1), is(0, 32, 1));
        op(17, is(0, 64, 64), is(1), is(0, 32, 1));
        op(17, is(-64, -32, 32), is(4), is((1 << 28) - 4, (1 << 28) - 2, 1));
        op(16, is(0, 1, 1), is(1), is(0));
        op(17, is(0, 1, 1), is(1), is(0));
        op(17, is(0, 64, 64), is(32), is(0, 64, 64));
        op(16, is(0, 64, 64), is(32), is(0, 64, 1));
    }

    /** LOCAL 1, 0 .. 9 where it is divided by, lies on the stack, too, and is divided itself. */
    private static AnalysisHouse divided(int op, int low) {
        return Due.analysed(2, 2, 0, 0,
            1, 1, 0, 9, 12, 0, 0, low, 7, 0, 2, 1, 1, 1, 1, 0, 0, 5, 1, 1, op, 0, 33, 0);
    }

    private static void divisorsBehind() {
        Due.of("behind 10, 11 j has lost 0 at its ends,");
        for (int op = 10; op <= 11; op++) {
            AnalysisHouse h = divided(op, 0);
            span("0 at its low: the LOCAL", h, 11, 1, is(1, 9, 1));
            span("0 at its low: the place of the stack that has its MARK", h, 11, 10, is(1, 9, 1));
            Due.due("the MARK stays", h.state(0, 11, 10, 5), 1);
            span("another MARK's", h, 11, 11, ALL);
            span("another LOCAL", h, 11, 0, ALL);
            h = divided(op, -9);
            span("0 at its high: the LOCAL", h, 11, 1, is(-9, -1, 1));
            span("0 at its high: the stack", h, 11, 10, is(-9, -1, 1));
            h = divided(op, -5);
            span("0 within: it stays", h, 11, 1, is(-5, 4, 1));
            h = divided(op, 1);
            span("no 0: it stays", h, 11, 1, is(1, 10, 1));
            h = Due.analysed(2, 2, 0, 0, 0, 5, 1, 1, 0, 1, 12, 0, 2, 1, 1, 1, op, 0, 33, 0);
            span("0 and 1: 1 alone", h, 7, 1, is(1));
            h = Due.analysed(2, 2, 0, 0, 1, 0, 0, 3, op, 0, 33, 0);
            span("x's LOCAL stays", h, 3, 0, ALL);
        }
    }

    private static void divisorsOfZero() {
        Due.of("(before all else: NOTHING: no STEP, also without a SITE)");
        for (int op = 10; op <= 11; op++) {
            AnalysisHouse h = Due.analysed(1, 1, 0, 0, 1, 0, 0, 0, op, 0, 33, 0);
            Due.due("0 alone", h.reached(0, 2), true);
            Due.due("0 alone: no STEP", h.reached(0, 3), false);
            h = Due.analysed(1, 1, 0, 0, 1, 0, 0, 1, op, 0, 33, 0);
            Due.due("1 alone: a STEP", h.reached(0, 3), true);
        }
    }
}
