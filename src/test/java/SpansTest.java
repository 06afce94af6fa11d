/** Promises 7 and 9, the STEPS of 0 to 18: what is told of what arithmetic makes. */
public final class SpansTest {
    private static final long[] ALL = Lines.ALL;
    private static final int MIN = Integer.MIN_VALUE;
    private static final int MAX = Integer.MAX_VALUE;

    public static void main(String[] args) {
        straight();
        moves();
        sums();
        products();
        quotients();
        remainders();
        bits();
        shifts();
        divisorsBehind();
        grid();
        Due.end("SpansTest");
    }

    private static long[] is(long... span) {
        return Lines.is(span);
    }

    private static void op(int op, long[] x, long[] y, long[] want) {
        int[] lines = op == 18 ? Lines.join(Lines.make(x, 0), new int[] {18, 0, 33, 0})
            : Lines.join(Lines.make(x, 0), Lines.make(y, 1), new int[] {op, 0, 33, 0});
        AnalysisHouse h = Due.analysed(2, 2, 0, 1, lines);
        int end = lines.length / 2 - 1;
        String what = op + " of " + x[0] + ".." + x[1] + "/" + x[2] + " and " + y[0] + ".." + y[1] + "/" + y[2];
        int[] top = Due.at(0, end, 10);
        if (op != 18) {
            Due.span("y for " + what, h, Due.at(0, end - 1, 11), y[0], y[1], y[2]);
        }
        Due.span("x for " + what, h, Due.at(0, end - 1, 10), x[0], x[1], x[2]);
        Due.span(what, h, top, want[0], want[1], want[2]);
        Due.due("MARK of " + what, h.state(0, end, 10, 5), Due.NONE);
    }

    private static void straight() {
        AnalysisHouse h = Due.built(2, 3, 4, 1, 0, 7, 33, 0);
        Due.due("analyze of none", h.analyze(0), 1);
        Due.due("none is reached", h.reached(0, 0), false);
        Due.due("straight CODE takes 2 PASSES", h.analyze(1), 2);
        Due.due("reached", h.reached(0, 1), true);
        Due.due("not beyond", h.reached(0, 2), false);
        Due.due("not below", h.reached(0, -1), false);
        Due.due("no METHOD", h.reached(1, 0), false);
        Due.span("7", h, Due.at(0, 1, 10), 7, 7, 0);
        Due.due("slot 3 of 3 LOCALS", h.state(0, 1, 3, 0), Due.NO);
        Due.due("slot 11 of a stack of 1", h.state(0, 1, 11, 0), Due.NO);
        Due.due("slot 9", h.state(0, 1, 9, 0), Due.NO);
        Due.due("slot -1", h.state(0, 1, -1, 0), Due.NO);
        Due.due("slot 10 of an empty stack", h.state(0, 0, 10, 0), Due.NO);
        Due.due("what 3 of a SPAN", h.state(0, 1, 10, 3), Due.NO);
        Due.due("what 4 of a SPAN", h.state(0, 1, 10, 4), Due.NO);
        Due.due("what 0 of a SET", h.state(0, 1, 2, 0), Due.NO);
        Due.due("what 2 of a SET", h.state(0, 1, 2, 2), Due.NO);
        Due.due("what 5 of a LOCAL", h.state(0, 1, 0, 5), Due.NO);
        Due.due("what 5 of the stack", h.state(0, 1, 10, 5), Due.NONE);
        Due.due("what 6", h.state(0, 1, 10, 6), Due.NO);
        Due.due("what -1", h.state(0, 1, 10, -1), Due.NO);
        Due.due("place 2", h.state(0, 2, 0, 0), Due.NO);
        Due.due("method 1", h.state(1, 0, 0, 0), Due.NO);
        Due.due("bits beyond", h.analyze(3), Due.NONE);
    }

    private static void moves() {
        AnalysisHouse h = Due.analysed(1, 3, 4, 0, 1, 0, 5, 0, 1, 1, 6, 0, 2, 0, 4, 0, 4, 0, 3, 0, 2, 2, 1, 2, 33, 0);
        Due.due("1: MARK", h.state(0, 1, 10, 5), 0);
        Due.due("5: MARK of the lower", h.state(0, 2, 10, 5), 0);
        Due.due("5: MARK of the upper", h.state(0, 2, 11, 5), 0);
        Due.due("1 of LOCAL 1", h.state(0, 3, 12, 5), 1);
        Due.due("6: MARK below the top", h.state(0, 4, 11, 5), 1);
        Due.due("6: MARK on top", h.state(0, 4, 12, 5), 0);
        Due.span("6: below the top", h, Due.at(0, 4, 11), 0, 0, 0);
        Due.span("6: top", h, Due.at(0, 4, 12), MIN, MAX, 1);
        Due.due("2: MARKS of its LOCAL go", h.state(0, 5, 10, 5), Due.NONE);
        Due.due("2: others stay", h.state(0, 5, 11, 5), 1);
        Due.due("3: MARK", h.state(0, 8, 10, 5), Due.NONE);
        Due.set("3", h, Due.at(0, 8, 10), 0, true);
        Due.due("1 of an ARRAY: MARK", h.state(0, 10, 10, 5), 2);
        h = Due.analysed(1, 2, 0, 0, 0, 42, 2, 1, 33, 0);
        Due.span("2: the LOCAL", h, Due.at(0, 2, 1), 42, 42, 0);
        Due.span("2: before", h, Due.at(0, 1, 1), 0, 0, 0);
    }

    private static void sums() {
        op(7, is(3), is(4), is(7));
        op(7, is(MAX), is(1), is(MIN));
        op(7, is(0, 10, 2), is(100, 130, 3), is(100, 140, 1));
        op(7, is(0, 12, 4), is(100, 160, 6), is(100, 172, 2));
        op(7, is(0, 12, 4), is(5), is(5, 17, 4));
        op(7, is(MAX - 10, MAX, 5), is(20), is(MIN + 9, MIN + 19, 5));
        op(7, is(MAX - 10, MAX, 5), is(3), ALL);
        op(7, is(MAX - 12, MAX, 4), is(4), is(MIN + 3, MAX, 4));
        op(7, is(MAX - 12, MAX, 6), is(5), is(MIN, MAX - 1, 2));
        op(7, ALL, is(1), ALL);
        op(7, ALL, ALL, ALL);
        op(8, is(3), is(4), is(-1));
        op(8, is(MIN), is(1), is(MAX));
        op(8, is(0, 10, 2), is(100, 112, 4), is(-112, -90, 2));
        op(8, is(MIN, MIN + 8, 8), is(4), is(MIN + 4, MAX - 3, 8));
        op(8, is(0, 6, 3), is(0, 6, 3), is(-6, 6, 3));
        op(18, is(5), is(0), is(-5));
        op(18, is(MIN), is(0), is(MIN));
        op(18, is(3, 11, 4), is(0), is(-11, -3, 4));
        op(18, is(MIN, MIN + 8, 4), is(0), is(MIN, MAX - 3, 4));
        op(18, ALL, is(0), ALL);
    }

    private static void products() {
        op(9, is(6), is(7), is(42));
        op(9, is(65536), is(65536), is(0));
        op(9, is(MIN), is(-1), is(MIN));
        op(9, is(0, 10, 2), is(3), is(0, 30, 6));
        op(9, is(-3), is(0, 10, 2), is(-30, 0, 6));
        op(9, is(0, 10, 2), is(0), is(0));
        op(9, is(0), ALL, is(0));
        op(9, is(2, 4, 1), is(-5, 3, 1), is(-20, 12, 1));
        op(9, is(-4, -2, 1), is(-5, -3, 1), is(6, 20, 1));
        op(9, is(0, 65536, 1), is(0, 65536, 2), ALL);
        op(9, ALL, is(8), is(MIN, MAX - 7, 8));
        op(9, ALL, is(12), is(MIN, MAX - 3, 4));
        op(9, is(1, 5, 2), is(1 << 30), is(MIN + (1 << 30), 1 << 30, MAX + 1L));
        op(9, is(1, 9, 4), is(1 << 30), is(1 << 30));
        op(15, is(1), is(31), is(MIN));
        op(15, is(1), is(33), is(2));
        op(15, is(1, 3, 1), is(-31), is(2, 6, 2));
        op(15, is(0, 1, 1), is(31), is(MIN, 0, MAX + 1L));
        op(15, is(-1, 1, 2), is(31), is(MIN));
        op(15, ALL, is(4), is(MIN, MAX - 15, 16));
        op(15, is(1, 3, 1), is(32), is(1, 3, 1));
        op(15, is(1), is(0, 1, 1), ALL);
    }

    private static void quotients() {
        op(10, is(7), is(2), is(3));
        op(10, is(-7), is(2), is(-3));
        op(10, is(MIN), is(-1), is(MIN));
        op(10, is(10, 20, 5), is(3), is(3, 6, 1));
        op(10, is(10, 11, 1), is(4), is(2));
        op(10, is(10, 20, 1), is(2, 5, 1), is(2, 10, 1));
        op(10, is(10, 20, 1), is(-5, 5, 1), is(-20, 20, 1));
        op(10, is(10, 20, 1), is(-4, 6, 5), is(-5, 20, 1));
        op(10, is(-20, 10, 1), is(0, 5, 1), is(-20, 10, 1));
        op(10, is(-20, 10, 1), is(-5, 0, 1), is(-10, 20, 1));
        op(10, is(MIN, MIN + 1, 1), is(-1), ALL);
        op(10, is(MIN), is(-2, -1, 1), ALL);
        op(10, ALL, is(2), is(MIN / 2, MAX / 2, 1));
        op(10, ALL, is(-2), is(-(MAX / 2), -(MIN / 2), 1));
        op(10, is(MIN), is(-3, 3, 2), ALL);
        op(10, is(MIN), is(-4, 4, 2), is(MIN / 2, -(MIN / 2), 1));
        op(10, ALL, ALL, ALL);
        // y has lost 0 before: then it is single
        op(10, is(100), is(0, 7, 7), is(14));
        op(10, is(MIN), is(-1, 0, 1), is(MIN));
        op(10, is(0), is(-3, 3, 3), is(0));
    }

    private static void remainders() {
        op(11, is(7), is(4), is(3));
        op(11, is(-7), is(4), is(-3));
        op(11, is(MIN), is(-1), is(0));
        op(11, is(0, 8, 4), is(9), is(0, 8, 4));
        op(11, is(0, 8, 4), is(8), is(0, 7, 1));
        op(11, is(-8, 8, 4), is(9, 20, 1), is(-8, 8, 4));
        op(11, is(-8, 8, 4), is(-20, -9, 1), is(-8, 8, 4));
        op(11, is(-8, 8, 4), is(8, 20, 1), is(-8, 8, 1));
        op(11, is(-100, 50, 1), is(7), is(-6, 6, 1));
        op(11, is(-100, 50, 1), is(-7, 3, 1), is(-6, 6, 1));
        op(11, is(3, 50, 1), is(0, 10, 1), is(0, 9, 1));
        op(11, is(-50, -3, 1), is(0, 10, 1), is(-9, 0, 1));
        op(11, is(3, 5, 1), is(1), is(0));
        op(11, ALL, is(10), is(-9, 9, 1));
        op(11, ALL, is(MIN), is(-MAX, MAX, 1));
        op(11, is(5, 6, 1), is(MIN), is(5, 6, 1));
        op(11, is(100), is(0, 7, 7), is(2));
        op(11, is(100), is(7, 9, 2), is(0, 8, 1));
        op(11, ALL, ALL, is(-MAX, MAX, 1));
        op(11, is(-1, 1, 1), is(-3, 3, 2), is(-1, 1, 1));
    }

    private static void bits() {
        op(12, is(12), is(10), is(8));
        op(12, is(-1), is(-8), is(-8));
        op(12, is(0, 100, 10), is(0, 60, 1), is(0, 60, 1));
        op(12, is(4, 100, 4), is(-8), is(0, 100, 1));
        op(12, is(-8), is(4, 100, 4), is(0, 100, 1));
        op(12, is(-8, -4, 1), is(-2), ALL);
        op(12, is(3, 5, 1), is(0), is(0));
        op(13, is(12), is(10), is(14));
        op(13, is(4, 8, 1), is(3, 5, 1), is(4, 15, 1));
        op(13, is(4, 7, 1), is(3), is(4, 7, 1));
        op(13, is(0, 1 << 30, 1), is(0), is(0, MAX, 1));
        op(13, is(-1, 8, 1), is(3), ALL);
        op(13, is(3), is(-1, 8, 1), ALL);
        op(13, is(-1), is(5), is(-1));
        op(14, is(12), is(10), is(6));
        op(14, is(4, 8, 1), is(3, 5, 1), is(0, 15, 1));
        op(14, is(4, 7, 1), is(7), is(0, 7, 1));
        op(14, is(0, 1, 1), is(0), is(0, 1, 1));
        op(14, is(-2, -1, 1), is(-1), ALL);
        op(14, is(-1), is(0), is(-1));
    }

    private static void shifts() {
        op(16, is(-7), is(1), is(-4));
        op(16, is(-8, 8, 4), is(2), is(-2, 2, 1));
        op(16, is(-8, 8, 4), is(34), is(-2, 2, 1));
        op(16, is(-8, 8, 4), is(0), is(-8, 8, 1));
        op(16, is(4, 7, 1), is(2), is(1));
        op(16, is(-8, 8, 4), is(0, 3, 1), is(-8, 8, 1));
        op(16, is(4, 8, 4), is(0, 3, 1), is(0, 8, 1));
        op(16, is(-8, -4, 4), is(0, 3, 1), is(-8, -1, 1));
        op(16, is(-1), is(0, 3, 1), is(-1));
        op(16, ALL, is(31), is(-1, 0, 1));
        op(17, is(-8, 8, 4), is(32), is(-8, 8, 4));
        op(17, is(-8, 8, 4), is(0), is(-8, 8, 4));
        op(17, is(4, 12, 4), is(2), is(1, 3, 1));
        op(17, is(4, 12, 4), is(0, 3, 1), is(0, 12, 1));
        op(17, is(-8, -4, 4), is(28), is(15));
        op(17, is(-8, -4, 4), is(1), is(MAX - 3, MAX - 1, 1));
        op(17, is(-8, -4, 4), is(1, 2, 1), ALL);
        op(17, is(-8, 8, 4), is(28), is(0, 15, 1));
        op(17, is(-8, 8, 4), is(1), is(0, MAX, 1));
        op(17, is(-8, 8, 4), is(31), is(0, 1, 1));
        op(17, is(-8, 8, 4), is(0, 1, 1), ALL);
        op(17, is(-1), is(31), is(1));
    }

    /** Behind 10 and 11 the divisor has lost 0 at its ends, and with it what has its MARK. */
    private static void divisorsBehind() {
        for (int op = 10; op <= 11; op++) {
            AnalysisHouse h = Due.analysed(2, 2, 0, 0,
                1, 1, 0, 9, 12, 0, 2, 1, 1, 1, 0, 5, 1, 1, op, 0, 33, 0);
            Due.span("divisor before", h, Due.at(0, 7, 1), 0, 9, 1);
            Due.span("divisor behind: LOCAL", h, Due.at(0, 8, 1), 1, 9, 1);
            Due.span("divisor behind: stack", h, Due.at(0, 8, 10), 1, 9, 1);
            Due.span("another LOCAL", h, Due.at(0, 8, 0), MIN, MAX, 1);
            h = Due.analysed(2, 2, 0, 0, 1, 0, 0, 0, op, 0, 33, 0);
            Due.due("0 alone: no STEP", h.reached(0, 3), false);
            h = Due.analysed(2, 2, 0, 0, 1, 0, 1, 1, op, 0, 33, 0);
            Due.span("0 within stays", h, Due.at(0, 3, 1), MIN, MAX, 1);
        }
    }

    /** Every op on every two of a row of SPANS, against the oracle. */
    private static void grid() {
        long[][] spans = {
            is(0), is(1), is(-1), is(2), is(7), is(31), is(32), is(MIN), is(MAX), is(-100), is(0, 1, 1), is(-1, 0, 1),
            is(-1, 1, 1), is(-3, 3, 2), is(-2, 2, 2), is(0, 12, 4), is(5, 17, 6), is(-20, -2, 3), is(0, 255, 1),
            is(MIN, MIN + 12, 4), is(MAX - 12, MAX, 6), is(-1000000, 1000000, 10), is(1, 65537, 2), is(1 << 30, MAX, 1),
            ALL
        };
        for (int op = 7; op <= 18; op++) {
            for (long[] x : spans) {
                for (long[] y : spans) {
                    gridRow(op, x, y);
                }
            }
        }
    }

    private static void gridRow(int op, long[] x, long[] y) {
        int[] lines = op == 18 ? Lines.join(Lines.make(x, 0), new int[] {18, 0, 33, 0})
            : Lines.join(Lines.make(x, 0), Lines.make(y, 1), new int[] {op, 0, 33, 0});
        AnalysisHouse h = Due.analysed(2, 2, 0, 1, lines);
        int end = lines.length / 2 - 1;
        Oracle.Span b = new Oracle.Span(y[0], y[1], y[2]);
        Oracle.Span a = new Oracle.Span(x[0], x[1], x[2]);
        if (op == 10 || op == 11) {
            b = Oracle.lose(b, 0);
        }
        if (b == null) {
            Due.due("no STEP", h.reached(0, end), false);
            return;
        }
        Oracle.Span c = op == 18 ? Oracle.arithmetic(8, Oracle.ZERO, a) : Oracle.arithmetic(op, a, b);
        Due.span(op + " of " + a + " and " + b, h, Due.at(0, end, 10), c.low(), c.high(), c.stride());
    }
}
