/** Promises 13 and 14: VERDICTS, each of the four WRONGS, and how many there are. */
public final class VerdictsTest {
    public static void main(String[] args) {
        divisions();
        nulls();
        indexes();
        sizes();
        others();
        counts();
        Due.end("VerdictsTest");
    }

    /** y is (LOCAL & mask) * stride + low. */
    private static AnalysisHouse divided(int op, int mask, int stride, int low) {
        return Due.analysed(1, 1, 0, 0, 0, 100, 1, 0, 0, mask, 12, 0, 0, stride, 9, 0, 0, low, 7, 0, op, 0, 33, 0);
    }

    private static void divisions() {
        for (int op = 10; op <= 11; op++) {
            Due.due("1..8", divided(op, 7, 1, 1).verdict(0, 8, 1), 1);
            Due.due("0..7", divided(op, 7, 1, 0).verdict(0, 8, 1), 2);
            Due.due("-7..0", divided(op, 7, 1, -7).verdict(0, 8, 1), 2);
            Due.due("-8..-1", divided(op, 7, 1, -8).verdict(0, 8, 1), 1);
            Due.due("-3..4", divided(op, 7, 1, -3).verdict(0, 8, 1), 2);
            Due.due("odd ones about 0", divided(op, 7, 2, -7).verdict(0, 8, 1), 1);
            Due.due("even ones about 0", divided(op, 7, 2, -6).verdict(0, 8, 1), 2);
            Due.due("0 alone", divided(op, 0, 1, 0).verdict(0, 8, 1), 3);
            Due.due("5 alone", divided(op, 0, 1, 5).verdict(0, 8, 1), 1);
            Due.due("2 of a division", divided(op, 0, 1, 0).verdict(0, 8, 2), 1);
            Due.due("4 of a division", divided(op, 0, 1, 0).verdict(0, 8, 4), 1);
        }
    }

    private static void nulls() {
        for (int op = 29; op <= 31; op++) {
            int k = op - 29;
            int[][] rest = {{op, 0, 33, 0}, {0, 0, op, 0, 33, 0}, {0, 0, 0, 0, op, 0, 33, 0}};
            AnalysisHouse h = Due.analysed(1, 1, 1, 0, join(new int[] {1, 0}, rest[k]));
            Due.due(op + " of an argument", h.verdict(0, 1 + k, 2), 2);
            h = Due.analysed(1, 1, 1, 0, join(new int[] {3, 0}, rest[k]));
            Due.due(op + " of null", h.verdict(0, 1 + k, 2), 3);
            Due.due(op + " of null: no SITE", h.verdict(0, 1 + k, 3), 1);
            h = Due.analysed(1, 1, 1, 0, join(new int[] {0, 5, 28, 0}, rest[k]));
            Due.due(op + " of a new one", h.verdict(0, 2 + k, 2), 1);
            h = Due.analysed(1, 1, 1, 0, join(new int[] {1, 0, 26, 6, 1, 0}, join(rest[k], new int[] {33, 0, 33, 0})));
            Due.due(op + " where it is not null", h.verdict(0, 3 + k, 2), 1);
        }
    }

    private static int[] join(int[] a, int[] b) {
        int[] all = java.util.Arrays.copyOf(a, a.length + b.length);
        System.arraycopy(b, 0, all, a.length, b.length);
        return all;
    }

    /** An ARRAY of (LOCAL 0 & lengths) + least, read or written at (LOCAL 1 & mask) + low. */
    private static int index(int op, int lengths, int least, int mask, int low) {
        int[] lines = {1, 0, 0, lengths, 12, 0, 0, least, 7, 0, 28, 0, 1, 1, 0, mask, 12, 0, 0, low, 7, 0};
        int[] rest = op == 30 ? new int[] {30, 0, 33, 0} : new int[] {0, 1, 31, 0, 33, 0};
        AnalysisHouse h = Due.analysed(2, 2, 0, 0, join(lines, rest));
        return h.verdict(0, op == 30 ? 11 : 12, 3);
    }

    private static void indexes() {
        for (int op = 30; op <= 31; op++) {
            Due.due("0..3 of 4", index(op, 0, 4, 3, 0), 1);
            Due.due("0..3 of 4..7", index(op, 3, 4, 3, 0), 1);
            Due.due("0..3 of 3..6", index(op, 3, 3, 3, 0), 2);
            Due.due("0..4 of 4", index(op, 0, 4, 4, 0), 2);
            Due.due("-1..2 of 4", index(op, 0, 4, 3, -1), 2);
            Due.due("-4..-1 of 4", index(op, 0, 4, 3, -4), 3);
            Due.due("-3..0 of 4", index(op, 0, 4, 3, -3), 2);
            Due.due("4..7 of 4", index(op, 0, 4, 3, 4), 3);
            Due.due("3..6 of 4", index(op, 0, 4, 3, 3), 2);
            Due.due("7..10 of 4..7", index(op, 3, 4, 3, 7), 3);
            Due.due("6..9 of 4..7", index(op, 3, 4, 3, 6), 2);
            Due.due("0 of 0", index(op, 0, 0, 0, 0), 3);
        }
        AnalysisHouse h = Due.analysed(2, 2, 2, 0, 1, 1, 1, 0, 30, 0, 33, 0);
        Due.due("any of OUTSIDE", h.verdict(0, 2, 3), 2);
        h = Due.analysed(1, 1, 1, 0, 1, 0, 0, 0, 30, 0, 33, 0);
        Due.due("0 of OUTSIDE", h.verdict(0, 2, 3), 2);
        h = Due.analysed(1, 1, 1, 0, 1, 0, 0, -1, 30, 0, 33, 0);
        Due.due("-1 of OUTSIDE", h.verdict(0, 2, 3), 3);
        // an ARRAY of 4 or of 10
        int[] lines = {1, 0, 0, 0, 22, 6, 0, 4, 28, 0, 19, 8, 0, 10, 28, 0, 0, 3, 30, 0, 33, 0};
        Due.due("3 of 4 or 10", Due.analysed(1, 1, 0, 0, lines).verdict(0, 9, 3), 1);
        lines[17] = 4;
        Due.due("4 of 4 or 10", Due.analysed(1, 1, 0, 0, lines).verdict(0, 9, 3), 2);
        lines[17] = 10;
        Due.due("10 of 4 or 10", Due.analysed(1, 1, 0, 0, lines).verdict(0, 9, 3), 3);
    }

    private static void sizes() {
        Due.due("new of any", Due.analysed(1, 1, 0, 0, 1, 0, 28, 0, 33, 0).verdict(0, 1, 4), 2);
        Due.due("new of 0", Due.analysed(1, 1, 0, 0, 0, 0, 28, 0, 33, 0).verdict(0, 1, 4), 1);
        Due.due("new of -1", Due.analysed(1, 1, 0, 0, 0, -1, 28, 0, 33, 0).verdict(0, 1, 4), 3);
        int[] lines = {1, 0, 0, 3, 12, 0, 0, -3, 7, 0, 28, 0, 33, 0};
        Due.due("new of -3..0", Due.analysed(1, 1, 0, 0, lines).verdict(0, 5, 4), 2);
        lines[7] = -4;
        Due.due("new of -4..-1", Due.analysed(1, 1, 0, 0, lines).verdict(0, 5, 4), 3);
    }

    private static void others() {
        AnalysisHouse h = Due.built(0, 0, 0, 0, 0, 1, 19, 3, 10, 0, 33, 0);
        Due.due("no CERTIFICATE", h.verdict(0, 0, 1), Due.NONE);
        h.analyze(1);
        for (int wrong = 1; wrong <= 4; wrong++) {
            Due.due("of a 0", h.verdict(0, 0, wrong), 1);
            Due.due("without a STATE", h.verdict(0, 2, wrong), 0);
        }
        Due.due("WRONG 0", h.verdict(0, 0, 0), Due.NONE);
        Due.due("WRONG 5", h.verdict(0, 0, 5), Due.NONE);
        Due.due("PLACE 4", h.verdict(0, 4, 1), Due.NONE);
        Due.due("PLACE -1", h.verdict(0, -1, 1), Due.NONE);
        Due.due("METHOD 1", h.verdict(1, 0, 1), Due.NONE);
        Due.due("METHOD -1", h.verdict(-1, 0, 1), Due.NONE);
    }

    private static void counts() {
        AnalysisHouse h = new AnalysisHouse();
        h.method(2, 2, 2, 0);
        Due.code(h, 0,
            1, 1, 1, 0, 30, 0, 4, 0,   // null perhaps, index perhaps
            1, 1, 29, 0, 4, 0,         // null never
            1, 0, 0, 3, 10, 0,         // never
            1, 0, 11, 0, 4, 0,         // perhaps
            0, -2, 28, 0,              // always
            0, 0, 0, 0, 31, 0,         // not come to: two
            33, 0);
        h.method(0, 0, 0, 0);
        Due.code(h, 1, 0, 0, 28, 0, 4, 0, 33, 0, 0, 1, 28, 0);
        Due.due("build", h.build(), 3);
        Due.due("no CERTIFICATE", h.verdicts(0), Due.NONE);
        h.analyze(1);
        Due.due("0", h.verdicts(0), 4);
        Due.due("1", h.verdicts(1), 2);
        Due.due("2", h.verdicts(2), 3);
        Due.due("3", h.verdicts(3), 1);
        Due.due("4", h.verdicts(4), Due.NONE);
        Due.due("-1", h.verdicts(-1), Due.NONE);
        h.analyze(3);
        Due.due("0 of both", h.verdicts(0), 3);
        Due.due("1 of both", h.verdicts(1), 3);
        h.analyze(0);
        Due.due("0 of none", h.verdicts(0), 10);
        Due.due("1 of none", h.verdicts(1), 0);
    }
}
