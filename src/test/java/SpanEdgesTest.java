/** The edges of SPANS, SETS and STATES that 'Terms' names, sentence by sentence: BOTH, WITHIN, TURNED and MARKS. */
public final class SpanEdgesTest {
    private static final int MIN = Integer.MIN_VALUE;
    private static final int MAX = Integer.MAX_VALUE;
    private static final long[] ALL = Lines.ALL;

    public static void main(String[] args) {
        oneOrMore();
        all();
        bothOfSpans();
        within();
        turnedSo();
        turnedElse();
        setsAreSets();
        bothOfSets();
        marks();
        bothOfStates();
        Due.end("SpanEdgesTest");
    }

    private static long[] is(long... span) {
        return Lines.is(span);
    }

    private static void span(String what, AnalysisHouse h, int place, int slot, long[] want) {
        Due.span(what, h, Due.at(0, place, slot), want[0], want[1], want[2]);
    }

    private static String name(long[] span) {
        return span[0] + " .. " + span[1] + " by " + span[2];
    }

    /** Puts the first or the second on the stack, which one can not be told; its last PLACE, a 33, has BOTH. */
    private static AnalysisHouse either(int kinds, int[] first, int[] second) {
        int other = 3 + first.length / 2 + 1;
        int end = other + second.length / 2;
        return Due.analysed(3, 4, kinds, 0, Lines.join(
            Lines.of(1, 0, 0, 0, 20, other), first, Lines.of(19, end), second, Lines.of(33, 0)));
    }

    private static int last(int[] first, int[] second) {
        return 4 + first.length / 2 + second.length / 2;
    }

    private static void oneOrMore() {
        Due.of("low = high has STRIDE 0, else STRIDE is above 0 and divides high less low.");
        AnalysisHouse h = Due.analysed(1, 1, 0, 0, 0, 5, 33, 0);
        span("one", h, 1, 10, is(5));
        span("all", h, 1, 0, ALL);
        h.plant(0, 1, 0, 8, 8);
        span("one that is planted", h, 1, 0, is(8));
        h.plant(0, 1, 0, 8, 9);
        span("two that are planted", h, 1, 0, is(8, 9, 1));
        h = either(0, Lines.of(0, 4), Lines.of(0, 4));
        span("the same two", h, 6, 10, is(4));
    }

    private static void all() {
        Due.of("ALL is that of all INTS (STRIDE 1).");
        AnalysisHouse h = Due.analysed(1, 1, 0, 0, 33, 0);
        span("an argument", h, 0, 0, is(-2147483648L, 2147483647L, 1));
        h.argument(0, MIN);
        h.run(0, 1);
        Due.due("the least is told", h.outside(), Due.NONE);
        h.forget();
        h.argument(0, MAX);
        h.run(0, 1);
        Due.due("the greatest is told", h.outside(), Due.NONE);
    }

    private static void both(long[] a, long[] b, long[] want) {
        int[] first = Lines.make(a, 1);
        int[] second = Lines.make(b, 2);
        span(name(a) + " and " + name(b), either(0, first, second), last(first, second), 10, want);
        span(name(b) + " and " + name(a), either(0, second, first), last(first, second), 10, want);
    }

    private static void bothOfSpans() {
        Due.of("BOTH of two SPANS: the least of lows, the greatest of highs, STRIDE the greatest common divisor of both "
            + "and of the difference of both lows.");
        both(is(3), is(3), is(3));
        both(is(3), is(4), is(3, 4, 1));
        both(is(3), is(10), is(3, 10, 7));
        both(is(MIN), is(MAX), is(MIN, MAX, 4294967295L));
        both(is(MIN), is(0), is(MIN, 0, 2147483648L));
        both(is(-1), is(MAX), is(-1, MAX, 2147483648L));
        both(is(0, 12, 4), is(8), is(0, 12, 4));
        both(is(0, 12, 4), is(6), is(0, 12, 2));
        both(is(0, 12, 4), is(7), is(0, 12, 1));
        both(is(0, 12, 4), is(16), is(0, 16, 4));
        both(is(0, 12, 4), is(13), is(0, 13, 1));
        both(is(0, 12, 4), is(-4), is(-4, 12, 4));
        both(is(0, 12, 4), is(-6), is(-6, 12, 2));
        both(is(0, 8, 4), is(2, 14, 6), is(0, 14, 2));
        both(is(0, 8, 4), is(1, 13, 6), is(0, 13, 1));
        both(is(0, 12, 6), is(3, 18, 15), is(0, 18, 3));
        both(is(0, 100, 10), is(20, 40, 20), is(0, 100, 10));
        both(is(0, 100, 20), is(20, 50, 10), is(0, 100, 10));
        both(is(0, 100, 10), is(0, 100, 4), is(0, 100, 2));
        both(is(0, 5, 1), is(100, 105, 1), is(0, 105, 1));
        both(ALL, is(0), ALL);
        both(is(MIN, MAX - 3, 4), is(MAX - 3), is(MIN, MAX - 3, 4));
        both(is(MIN, MAX - 3, 4), is(MAX), is(MIN, MAX, 1));
    }

    /** What LOCAL 2 is where it is compared so with c and goes on at a; null: that way is not come to. */
    private static void kept(long[] x, int op, int c, long[] want) {
        int[] put = Lines.make(x, 0);
        int place = put.length / 2;
        AnalysisHouse h = Due.analysed(1, 3, 0, 0, Lines.join(
            put, Lines.of(2, 2, 1, 2, 0, c, op, place + 5, 33, 0, 33, 0)));
        String what = name(x) + " " + op + " " + c;
        Due.due(what + ": come to", h.reached(0, place + 5), want != null);
        if (want != null) {
            span(what, h, place + 5, 2, want);
        }
    }

    private static void within() {
        Due.of("WITHIN a .. b: those of it (low the least of them, and so on; perhaps NOTHING).");
        long[] fives = is(0, 20, 5);
        kept(fives, 23, -1, fives);
        kept(fives, 23, 0, fives);
        kept(fives, 23, 1, is(5, 20, 5));
        kept(fives, 23, 5, is(5, 20, 5));
        kept(fives, 23, 6, is(10, 20, 5));
        kept(fives, 23, 15, is(15, 20, 5));
        kept(fives, 23, 16, is(20));
        kept(fives, 23, 20, is(20));
        kept(fives, 23, 21, null);
        kept(fives, 25, 21, fives);
        kept(fives, 25, 20, fives);
        kept(fives, 25, 19, is(0, 15, 5));
        kept(fives, 25, 5, is(0, 5, 5));
        kept(fives, 25, 4, is(0));
        kept(fives, 25, 0, is(0));
        kept(fives, 25, -1, null);
        kept(fives, 20, 10, is(10));
        kept(fives, 20, 7, null);
        kept(is(-7), 23, -7, is(-7));
        kept(is(-7), 23, -6, null);
        kept(is(-7), 25, -7, is(-7));
        kept(is(-7), 25, -8, null);
        kept(ALL, 23, MAX, is(MAX));
        kept(ALL, 25, MIN, is(MIN));
        kept(ALL, 23, MIN, ALL);
        kept(ALL, 25, MAX, ALL);
        long[] fours = is(MIN, MAX - 3, 4);
        kept(fours, 23, MAX - 3, is(MAX - 3));
        kept(fours, 23, MAX - 2, null);
        kept(fours, 23, MIN + 1, is(MIN + 4, MAX - 3, 4));
        kept(fours, 25, MIN + 3, is(MIN));
        kept(fours, 25, MAX - 4, is(MIN, MAX - 7, 4));
        kept(is(-10, 10, 20), 23, -9, is(10));
        kept(is(-10, 10, 20), 20, 0, null);
    }

    private static void op(int op, long[] x, long[] y, long[] want) {
        // something else is reckoned in between, and is gone when it is due
        int[] between = Lines.of(0, 777, 18, 0, 4, 0);
        int[] lines = Lines.join(Lines.make(x, 0), Lines.make(y, 1), between, Lines.of(op, 0, 33, 0));
        AnalysisHouse h = Due.analysed(2, 2, 0, 0, lines);
        int end = lines.length / 2 - 1;
        String what = name(x) + " " + op + " " + name(y);
        span(what + ", x", h, end - 1, 10, x);
        span(what + ", y", h, end - 1, 11, y);
        span(what, h, end, 10, want);
    }

    private static void turnedSo() {
        Due.of("TURNED of a row low .. high by s of whole numbers: if one multiple of 2^32, added, brings low and high "
            + "into INTS: so;");
        op(7, is(MAX - 10, MAX - 5, 5), is(5), is(MAX - 5, MAX, 5));
        op(7, is(MAX - 10, MAX - 5, 5), is(11), is(MIN, MIN + 5, 5));
        op(8, is(MIN + 5, MIN + 10, 5), is(5), is(MIN, MIN + 5, 5));
        op(8, is(MIN + 5, MIN + 10, 5), is(11), is(MAX - 5, MAX, 5));
        op(7, is(MAX), is(MAX), is(-2));
        op(7, is(MIN), is(MIN), is(0));
        op(8, is(MIN), is(MAX), is(1));
        op(7, ALL, is(0), ALL);
        // 2^32 is the whole of it: low and high of such a row can not both be INTS
        op(9, is(65536), is(65536), is(0));
        op(9, is(MIN), is(MIN), is(0));
        op(9, is(MAX), is(MAX), is(1));
        op(9, is(65536, 65537, 1), is(65536, 65537, 1), is(0, 131073, 1));
        op(9, is(-65537, -65536, 1), is(65536, 65537, 1), is(-131073, 0, 1));
        op(9, is(1000000, 1000100, 50), is(1000000), is(-727379968, -627379968, 50000000));
        op(9, is(MIN, MIN + 1, 1), is(MAX), is(MIN, -1, 2147483647L));
    }

    private static void turnedElse() {
        Due.of("else ALL with STRIDE the greatest common divisor of s and 2^32 (low and high moved to those that fit: "
            + "WITHIN ALL of the row through low).");
        op(7, is(MAX - 10, MAX - 5, 5), is(6), ALL);
        op(7, is(MAX - 10, MAX - 5, 5), is(10), ALL);
        op(8, is(MIN + 5, MIN + 10, 5), is(6), ALL);
        op(8, is(MIN + 5, MIN + 10, 5), is(10), ALL);
        op(7, is(MAX - 8, MAX - 4, 4), is(8), is(MIN + 3, MAX, 4));
        op(7, is(MAX - 8, MAX - 4, 4), is(7), is(MIN + 2, MAX - 1, 4));
        op(7, is(MAX - 8, MAX - 4, 4), is(5), is(MIN, MAX - 3, 4));
        op(7, is(MAX - 12, MAX, 12), is(1), is(MIN, MAX - 3, 4));
        op(7, is(MAX - 6, MAX, 6), is(1), is(MIN, MAX - 1, 2));
        op(7, ALL, is(1), ALL);
        op(7, is(MIN, MAX - 3, 4), is(4), is(MIN, MAX - 3, 4));
        op(7, is(MIN, MAX - 3, 4), is(3), is(MIN + 3, MAX, 4));
        op(7, is(MIN, MAX - 3, 4), is(5), is(MIN + 1, MAX - 2, 4));
        op(9, is(0, 2, 2), is(1 << 30), is(MIN, 0, 2147483648L));
        op(9, is(1, 3, 2), is(1 << 30), is(MIN + (1 << 30), 1 << 30, 2147483648L));
        op(9, is(0, 4, 4), is(1 << 30), is(0));
        op(9, is(3, 7, 4), is(1 << 30), is(-(1 << 30)));
        op(9, is(0, 65536, 65536), is(65536, 65537, 1), ALL);
        op(9, is(46340, 46341, 1), is(46340, 46341, 1), ALL);
        op(9, is(0, 6, 3), is(MAX), ALL);
        op(9, ALL, is(-6), is(MIN, MAX - 1, 2));
        op(9, ALL, is(1 << 16), is(MIN, MAX - 65535, 65536));
    }

    private static void setsAreSets() {
        Due.of("A SET tells of an ARRAY whether it may be null, and of which SITES it may be.");
        AnalysisHouse h = Due.analysed(1, 2, 3, 0, 3, 0, 0, 1, 28, 0, 0, 2, 28, 0, 33, 0);
        Due.set("an argument", h, Due.at(0, 0, 0), 1, true);
        Due.set("another LOCAL", h, Due.at(0, 0, 1), 0, true);
        Due.set("null", h, Due.at(0, 5, 10), 0, true);
        Due.set("of SITE 1", h, Due.at(0, 5, 11), 2, false);
        Due.set("of SITE 2", h, Due.at(0, 5, 12), 4, false);
        // 24 SITES, the last one's bit
        h = Due.analysed(0, 0, 0, 0, Lines.join(Lines.times(19, 0, 1, 28, 0, 4, 0), Lines.of(33, 0)));
        h.method(0, 0, 0, 0);
        Due.code(h, 1, Lines.join(Lines.times(4, 0, 1, 28, 0, 4, 0), Lines.of(0, 1, 28, 0, 33, 0)));
        Due.due("24 SITES", h.build(), 25);
        h.analyze(2);
        Due.set("of SITE 24", h, Due.at(1, 14, 10), 1 << 24, false);
    }

    private static void sets(String what, int[] first, int[] second, int sites, boolean orNull) {
        Due.set(what, either(2, first, second), Due.at(0, last(first, second), 10), sites, orNull);
    }

    private static void bothOfSets() {
        Due.of("BOTH of two STATES: of each;");
        int[] none = Lines.of(3, 0);
        int[] made = Lines.of(0, 1, 28, 0);
        int[] outer = Lines.of(1, 1);
        sets("null and null", none, none, 0, true);
        sets("null and a SITE", none, made, 2, true);
        sets("a SITE and null", made, none, 2, true);
        sets("two SITES", made, made, 6, false);
        sets("an argument and a SITE", outer, made, 3, true);
        sets("a SITE and an argument", made, outer, 3, true);
        sets("an argument and null", outer, none, 1, true);
        // LOCALS and all places of the stack, each by itself
        AnalysisHouse h = Due.analysed(1, 3, 0, 0,
            1, 0, 0, 0, 20, 8, 0, 4, 2, 1, 0, 10, 0, 20, 19, 12, 0, 6, 2, 2, 0, 13, 0, 24, 33, 0);
        span("LOCAL 1", h, 12, 1, is(0, 4, 4));
        span("LOCAL 2", h, 12, 2, is(0, 6, 6));
        span("the lower of the stack", h, 12, 10, is(10, 13, 3));
        span("the upper of the stack", h, 12, 11, is(20, 24, 4));
    }

    private static void marks() {
        Due.of("those of the stack have a MARK, too: the LOCAL that holds the same, or none.");
        AnalysisHouse h = Due.analysed(1, 6, 32, 0, 1, 0, 1, 5, 0, 3, 3, 0, 33, 0);
        Due.due("LOCAL 0", h.state(0, 4, 10, 5), 0);
        Due.due("LOCAL 5", h.state(0, 4, 11, 5), 5);
        Due.due("a number", h.state(0, 4, 12, 5), Due.NONE);
        Due.due("null", h.state(0, 4, 13, 5), Due.NONE);
        Due.due("LOCALS have none", h.state(0, 4, 0, 5), Due.NO);
    }

    private static void mark(String what, int[] first, int[] second, int want) {
        Due.due(what, either(0, first, second).state(0, last(first, second), 10, 5), want);
    }

    private static void bothOfStates() {
        Due.of("MARKS that are not the same go.");
        int[] zero = Lines.of(1, 0);
        int[] one = Lines.of(1, 1);
        int[] none = Lines.of(0, 7);
        mark("the same", one, one, 1);
        mark("LOCAL 0", zero, zero, 0);
        mark("two", zero, one, Due.NONE);
        mark("two, turned", one, zero, Due.NONE);
        mark("one and none", one, none, Due.NONE);
        mark("none and one", none, one, Due.NONE);
        mark("LOCAL 0 and none", zero, none, Due.NONE);
        mark("none and none", none, none, Due.NONE);
        // the upper one goes, the lower one stays
        int[] first = Lines.of(1, 1, 1, 2);
        int[] second = Lines.of(1, 1, 1, 0);
        AnalysisHouse h = either(0, first, second);
        Due.due("the lower", h.state(0, 8, 10, 5), 1);
        Due.due("the upper", h.state(0, 8, 11, 5), Due.NONE);
    }
}
