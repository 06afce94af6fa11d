/** The edges of VERDICTS that 'Terms' names, sentence by sentence. */
public final class VerdictEdgesTest {
    private static final int MIN = Integer.MIN_VALUE;
    private static final int MAX = Integer.MAX_VALUE;
    private static final long[] ALL = Lines.ALL;

    public static void main(String[] args) {
        withoutState();
        divisors();
        nulls();
        indexes();
        indexesBelowAndBeyond();
        indexesOfSeveral();
        noSite();
        sizes();
        ofOthers();
        Due.end("VerdictEdgesTest");
    }

    private static long[] is(long... span) {
        return Lines.is(span);
    }

    private static String name(long[] span) {
        return span[0] + " .. " + span[1] + " by " + span[2];
    }

    private static void withoutState() {
        Due.of("0 its PLACE has no STATE; 1 it can not be; 2 perhaps; 3 always.");
        AnalysisHouse h = Due.analysed(0, 0, 0, 0, 0, 1, 0, 0, 10, 0, 4, 0, 33, 0, 29, 0);
        Due.due("always", h.verdict(0, 2, 1), 3);
        for (int wrong = 1; wrong <= 4; wrong++) {
            Due.due("behind it", h.verdict(0, 3, wrong), 0);
            Due.due("without a SHAPE", h.verdict(0, 5, wrong), 0);
            Due.due("of a 0", h.verdict(0, 0, wrong), 1);
        }
        h.forgetState(0, 2);
        for (int wrong = 1; wrong <= 4; wrong++) {
            Due.due("forgotten", h.verdict(0, 2, wrong), 0);
        }
        h.analyze(0);
        Due.due("no ROOT", h.verdict(0, 0, 1), 0);
    }

    private static void divisor(long[] y, int want) {
        int[] put = Lines.join(Lines.of(0, 100), Lines.make(y, 0));
        for (int op = 10; op <= 11; op++) {
            AnalysisHouse h = Due.analysed(1, 1, 0, 0, Lines.join(put, Lines.of(op, 0, 33, 0)));
            Due.due(op + " by " + name(y), h.verdict(0, put.length / 2, 1), want);
        }
    }

    private static void divisors() {
        Due.of("1: y has no 0; is 0 alone.");
        divisor(is(0), 3);
        divisor(is(1), 1);
        divisor(is(-1), 1);
        divisor(is(MIN), 1);
        divisor(is(MAX), 1);
        divisor(is(0, 1, 1), 2);
        divisor(is(-1, 0, 1), 2);
        divisor(is(-1, 1, 1), 2);
        divisor(is(1, 4, 1), 1);
        divisor(is(-4, -1, 1), 1);
        divisor(is(-1, 1, 2), 1);
        divisor(is(-4, 4, 4), 2);
        divisor(is(-4, 5, 3), 1);
        divisor(is(0, 6, 6), 2);
        divisor(ALL, 2);
        divisor(is(MIN + 1, MAX - 2, 4), 1);
        divisor(is(MIN, MAX - 3, 4), 2);
    }

    /** LOCAL 3 is one of these ARRAYS; LOCALS 0, 1 and 2 are arguments: two INTS, an ARRAY. */
    private static int verdict(int[][] makers, int op, long[] index, int wrong) {
        int[] head = Lines.oneOf(3, makers);
        int[] at = op > 29 ? Lines.make(index, 1) : new int[0];
        int[] put = op > 30 ? Lines.of(0, 5) : new int[0];
        int[] lines = Lines.join(head, Lines.of(1, 3), at, put);
        AnalysisHouse h = Due.analysed(3, 4, 12, 0, Lines.join(lines, Lines.of(op, 0, 33, 0)));
        return h.verdict(0, lines.length / 2, wrong);
    }

    private static final int[] NULL = {3, 0};
    private static final int[] FOUR = {0, 4, 28, 0};
    private static final int[] TEN = {0, 10, 28, 0};
    private static final int[] NO_INTS = {0, 0, 28, 0};
    private static final int[] GIVEN = {1, 2};
    /** An ARRAY of 1 .. 8. */
    private static final int[] SOME = {1, 1, 0, 7, 12, 0, 0, 1, 7, 0, 28, 0};

    private static int[][] of(int[]... makers) {
        return makers;
    }

    private static void nulls() {
        Due.of("2: the SET has no null; is null alone.");
        for (int op = 29; op <= 31; op++) {
            Due.due(op + " of null alone", verdict(of(NULL), op, is(0), 2), 3);
            Due.due(op + " of a SITE", verdict(of(FOUR), op, is(0), 2), 1);
            Due.due(op + " of a SITE of none", verdict(of(NO_INTS), op, is(0), 2), 1);
            Due.due(op + " of two SITES", verdict(of(FOUR, TEN), op, is(0), 2), 1);
            Due.due(op + " of a SITE or null", verdict(of(FOUR, NULL), op, is(0), 2), 2);
            Due.due(op + " of an argument", verdict(of(GIVEN), op, is(0), 2), 2);
            Due.due(op + " at a wrong index", verdict(of(FOUR), op, is(-1), 2), 1);
        }
    }

    private static void index(String what, int[][] makers, long[] index, int want) {
        Due.due("30 of " + what + " at " + name(index), verdict(makers, 30, index, 3), want);
        Due.due("31 of " + what + " at " + name(index), verdict(makers, 31, index, 3), want);
    }

    private static void indexes() {
        Due.of("3 (without null): i from 0 on, below all LENGTHS' lows;");
        index("4", of(FOUR), is(0), 1);
        index("4", of(FOUR), is(3), 1);
        index("4", of(FOUR), is(0, 3, 1), 1);
        index("4", of(FOUR), is(0, 3, 3), 1);
        index("4", of(FOUR), is(-1, 3, 1), 2);
        index("4", of(FOUR), is(0, 4, 1), 2);
        index("4 or null", of(FOUR, NULL), is(0, 3, 1), 1);
        index("1 .. 8", of(SOME), is(0), 1);
        index("1 .. 8", of(SOME), is(1), 2);
        index("1 .. 8", of(SOME), is(0, 1, 1), 2);
        index("OUTSIDE", of(GIVEN), is(0), 2);
        index("the greatest", of(Lines.of(0, MAX, 28, 0)), is(0, MAX - 1, 1), 1);
    }

    private static void indexesBelowAndBeyond() {
        Due.of("below 0, or not below any LENGTH's high");
        index("4", of(FOUR), is(-1), 3);
        index("4", of(FOUR), is(-9, -1, 1), 3);
        index("4", of(FOUR), is(-9, 0, 1), 2);
        index("4", of(FOUR), is(4), 3);
        index("4", of(FOUR), is(4, 9, 1), 3);
        index("4", of(FOUR), is(3, 9, 1), 2);
        index("4", of(FOUR), is(MIN), 3);
        index("4", of(FOUR), is(MAX), 3);
        index("4", of(FOUR), ALL, 2);
        // each of the two is wrong, but not all below 0 nor all beyond
        index("4", of(FOUR), is(-1, 4, 5), 2);
        index("1 .. 8", of(SOME), is(7), 2);
        index("1 .. 8", of(SOME), is(8), 3);
        index("none", of(NO_INTS), is(0), 3);
        index("none", of(NO_INTS), is(-1, 0, 1), 2);
        index("OUTSIDE", of(GIVEN), is(MAX - 1), 2);
        index("OUTSIDE", of(GIVEN), is(MAX), 3);
        index("OUTSIDE", of(GIVEN), is(-1), 3);
        index("4 or null", of(FOUR, NULL), is(4), 3);
    }

    private static void indexesOfSeveral() {
        Due.of("3 (without null): i from 0 on, below all LENGTHS' lows; below 0, or not below any LENGTH's high");
        index("4 or 10", of(FOUR, TEN), is(3), 1);
        index("4 or 10", of(FOUR, TEN), is(4), 2);
        index("10 or 4", of(TEN, FOUR), is(4), 2);
        index("4 or 10", of(FOUR, TEN), is(9), 2);
        index("4 or 10", of(FOUR, TEN), is(10), 3);
        index("10 or 4", of(TEN, FOUR), is(10), 3);
        index("4 or none", of(FOUR, NO_INTS), is(0), 2);
        index("4 or OUTSIDE", of(FOUR, GIVEN), is(0), 2);
        index("4 or OUTSIDE", of(FOUR, GIVEN), is(4), 2);
    }

    private static void noSite() {
        Due.of("(no SITE: 1).");
        index("null", of(NULL), is(0), 1);
        index("null", of(NULL), is(-1), 1);
        index("null", of(NULL), is(MAX), 1);
        index("null", of(NULL), ALL, 1);
    }

    private static void size(long[] i, int want) {
        int[] put = Lines.make(i, 0);
        AnalysisHouse h = Due.analysed(1, 1, 0, 0, Lines.join(put, Lines.of(28, 0, 33, 0)));
        Due.due("28 of " + name(i), h.verdict(0, put.length / 2, 4), want);
    }

    private static void sizes() {
        Due.of("4: i from 0 on; all below 0.");
        size(is(0), 1);
        size(is(MAX), 1);
        size(is(0, 9, 1), 1);
        size(is(-1), 3);
        size(is(MIN), 3);
        size(is(-9, -1, 1), 3);
        size(is(-1, 0, 1), 2);
        size(is(-9, 9, 1), 2);
        size(ALL, 2);
    }

    /** What each INSTRUCTION takes, the last one on top, with the operand that it has here. */
    private static final String[] TAKES = {
        "", "", "i", "", "v", "v", "vv", "ii", "ii", "ii", "ii", "ii", "ii", "ii", "ii", "ii", "ii", "ii",
        "i", "", "ii", "ii", "ii", "ii", "ii", "ii", "r", "r", "i", "r", "ri", "rii", "", "", "", "i"
    };

    /** LOCAL 0 is such an ARRAY; two of them, an INT and another one lie below what is taken. */
    private static int[] putting(String kinds, int[] array, int v) {
        int[] lines = Lines.join(array, Lines.of(2, 0), array, array, Lines.of(0, v), array);
        for (char kind : kinds.toCharArray()) {
            lines = Lines.join(lines, kind == 'r' ? array : Lines.of(0, v));
        }
        return lines;
    }

    private static int due(int op, int wrong, boolean isNull, int v) {
        if (wrong == 1 && (op == 10 || op == 11)) {
            return v == 0 ? 3 : 1;
        }
        if (wrong == 4 && op == 28) {
            return v < 0 ? 3 : 1;
        }
        boolean canBe = wrong == 2 && op >= 29 && op <= 31 && isNull || wrong == 3 && op >= 30 && op <= 31 && !isNull;
        return canBe ? 3 : 1;
    }

    /** With INTS that are 0, or below 0, with null, or an ARRAY of none: only WRONGS that an INSTRUCTION has can be. */
    private static void ofOthers() {
        Due.of("(Of others: 1.)");
        for (int op = 0; op < 36; op++) {
            for (int v = -1; v <= 0; v++) {
                for (char any : new char[] {'i', 'r'}) {
                    others(op, TAKES[op].replace('v', any), NULL, v);
                    others(op, TAKES[op].replace('v', any), NO_INTS, v);
                }
            }
        }
    }

    private static void others(int op, String kinds, int[] array, int v) {
        int[] put = putting(kinds, array, v);
        int place = put.length / 2;
        int a = op >= 19 && op <= 27 ? place + 1 : op == 1 || op == 2 ? 1 : 0;
        AnalysisHouse h = Due.analysed(0, 2, 1, 0, Lines.join(put, Lines.of(op, a, 33, 0)));
        for (int wrong = 1; wrong <= 4; wrong++) {
            int want = due(op, wrong, array == NULL, v);
            Due.due(op + " on " + v + ", WRONG " + wrong, h.verdict(0, place, wrong), want);
        }
    }
}
