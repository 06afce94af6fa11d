/** Promises 8 and 9, the STEPS of 19 to 27: which ways are come to, and what is told there. */
public final class BranchesTest {
    private static final int MIN = Integer.MIN_VALUE;
    private static final int MAX = Integer.MAX_VALUE;

    public static void main(String[] args) {
        goes();
        comparisons();
        constants();
        ends();
        strides();
        stackPlaces();
        oneMark();
        nulls();
        marksThatGo();
        Due.end("BranchesTest");
    }

    private static void goes() {
        AnalysisHouse h = Due.analysed(0, 1, 0, 0, 19, 3, 0, 1, 4, 0, 33, 0);
        Due.due("19: at a", h.reached(0, 3), true);
        Due.due("19: not next", h.reached(0, 1), false);
        Due.due("no STATE", h.state(0, 1, 0, 0), Due.NO);
        Due.due("PASSES", h.analyze(1), 2);
    }

    /**
     * LOCAL 0 is 0 .. 20, LOCAL 1 is 10 .. 40 where they are compared (PLACE 12); next is PLACE 13, a is 14.
     */
    private static AnalysisHouse compared(int op) {
        return Due.analysed(2, 2, 0, 0,
            1, 0, 0, 20, 12, 0, 2, 0,
            1, 1, 0, 30, 12, 0,
            0, 10, 7, 0, 2, 1,
            1, 0, 1, 1, op, 14,
            33, 0, 33, 0);
    }

    private static void comparison(int op, int[] atA, int[] next) {
        AnalysisHouse h = compared(op);
        Due.span(op + " before x", h, Due.at(0, 12, 10), 0, 20, 1);
        Due.span(op + " before y", h, Due.at(0, 12, 11), 10, 40, 1);
        Due.span(op + " a: x", h, Due.at(0, 14, 0), atA[0], atA[1], 1);
        Due.span(op + " a: y", h, Due.at(0, 14, 1), atA[2], atA[3], 1);
        Due.span(op + " next: x", h, Due.at(0, 13, 0), next[0], next[1], 1);
        Due.span(op + " next: y", h, Due.at(0, 13, 1), next[2], next[3], 1);
        Due.due(op + " check", h.check(), 1);
    }

    private static void comparisons() {
        int[] equal = {10, 20, 10, 20};
        int[] all = {0, 20, 10, 40};
        comparison(20, equal, all);
        comparison(21, all, equal);
        int[] less = {0, 20, 10, 40};
        int[] notLess = {10, 20, 10, 20};
        comparison(22, less, notLess);
        comparison(23, notLess, less);
        int[] more = {11, 20, 10, 19};
        int[] notMore = {0, 20, 10, 40};
        comparison(24, more, notMore);
        comparison(25, notMore, more);
    }

    /** LOCAL 0, an argument, against a constant: what it is at a (PLACE 4) and next (PLACE 3); null: not come to. */
    private static void against(int op, int c, int[] atA, int[] next) {
        AnalysisHouse h = Due.analysed(1, 1, 0, 0, 1, 0, 0, c, op, 4, 33, 0, 33, 0);
        way(op + " " + c + " a", h, 4, atA);
        way(op + " " + c + " next", h, 3, next);
        h = Due.analysed(1, 1, 0, 0, 0, c, 1, 0, turned(op), 4, 33, 0, 33, 0);
        way("turned " + op + " " + c + " a", h, 4, atA);
        way("turned " + op + " " + c + " next", h, 3, next);
    }

    private static int turned(int op) {
        return new int[] {20, 21, 24, 25, 22, 23}[op - 20];
    }

    private static void way(String what, AnalysisHouse h, int place, int[] span) {
        Due.due(what + " reached", h.reached(0, place), span != null);
        if (span != null) {
            Due.span(what, h, Due.at(0, place, 0), span[0], span[1], span[0] == span[1] ? 0 : 1);
        }
    }

    private static void constants() {
        int[] all = {MIN, MAX};
        against(20, 5, new int[] {5, 5}, all);
        against(21, 5, all, new int[] {5, 5});
        against(22, 5, new int[] {MIN, 4}, new int[] {5, MAX});
        against(23, 5, new int[] {5, MAX}, new int[] {MIN, 4});
        against(24, 5, new int[] {6, MAX}, new int[] {MIN, 5});
        against(25, 5, new int[] {MIN, 5}, new int[] {6, MAX});
    }

    private static void ends() {
        int[] all = {MIN, MAX};
        against(22, MIN, null, all);
        against(23, MIN, all, null);
        against(24, MIN, new int[] {MIN + 1, MAX}, new int[] {MIN, MIN});
        against(25, MAX, all, null);
        against(24, MAX, null, all);
        against(22, MAX, new int[] {MIN, MAX - 1}, new int[] {MAX, MAX});
        against(21, MIN, new int[] {MIN + 1, MAX}, new int[] {MIN, MIN});
        against(20, MAX, new int[] {MAX, MAX}, new int[] {MIN, MAX - 1});
        int[][] singles = {{20, 0, 1, 0}, {20, 1, 1, 1}, {21, 1, 1, 0}, {21, 0, 1, 1}, {22, 0, 1, 1}, {22, 1, 1, 0},
            {23, 1, 1, 1}, {23, 0, 1, 0}, {24, 2, 1, 1}, {24, 1, 1, 0}, {25, 1, 1, 1}, {25, 2, 1, 0}};
        for (int[] row : singles) {
            AnalysisHouse h = Due.analysed(0, 0, 0, 0, 0, row[1], 0, row[2], row[0], 4, 33, 0, 33, 0);
            String what = row[1] + " " + row[0] + " " + row[2];
            Due.due(what + " a", h.reached(0, 4), row[3] == 1);
            Due.due(what + " next", h.reached(0, 3), row[3] == 0);
        }
    }

    private static void strides() {
        // LOCAL 0 is 0, 6, .., 60; against 20
        int[] head = {1, 0, 0, 10, 12, 0, 0, 6, 9, 0, 2, 0, 1, 0, 0, 20};
        int[] less = java.util.Arrays.copyOf(head, 22);
        less[16] = 22;
        less[17] = 10;
        less[18] = 33;
        less[20] = 33;
        AnalysisHouse h = Due.analysed(1, 1, 0, 0, less);
        Due.span("< 20 by 6", h, Due.at(0, 10, 0), 0, 18, 6);
        Due.span(">= 20 by 6", h, Due.at(0, 9, 0), 24, 60, 6);
        less[16] = 20;
        h = Due.analysed(1, 1, 0, 0, less);
        Due.due("= 20 is not of the row", h.reached(0, 10), false);
        Due.span("not = 20 keeps all", h, Due.at(0, 9, 0), 0, 60, 6);
        less[15] = 60;
        h = Due.analysed(1, 1, 0, 0, less);
        Due.span("= 60", h, Due.at(0, 10, 0), 60, 60, 0);
        Due.span("not = 60 loses it at its end", h, Due.at(0, 9, 0), 0, 54, 6);
        less[15] = 0;
        h = Due.analysed(1, 1, 0, 0, less);
        Due.span("not = 0 loses it at its end", h, Due.at(0, 9, 0), 6, 60, 6);
        less[15] = 30;
        h = Due.analysed(1, 1, 0, 0, less);
        Due.span("not = 30 keeps all", h, Due.at(0, 9, 0), 0, 60, 6);
    }

    /** What has the MARK on the stack becomes the same, too; what lost its MARK does not. */
    private static void stackPlaces() {
        AnalysisHouse h = Due.analysed(1, 2, 0, 0,
            1, 0, 1, 0, 0, 0, 7, 0, 1, 0, 0, 9, 22, 8, 33, 0, 33, 0);
        Due.span("place of the stack with the MARK", h, Due.at(0, 8, 10), MIN, 8, 1);
        Due.due("its MARK stays", h.state(0, 8, 10, 5), 0);
        Due.span("place without", h, Due.at(0, 8, 11), MIN, MAX, 1);
        Due.span("next: with", h, Due.at(0, 7, 10), 9, MAX, 1);
        h = Due.analysed(1, 1, 0, 0, 1, 0, 0, 1, 7, 0, 0, 9, 22, 6, 33, 0, 33, 0);
        Due.span("no MARK on x: the LOCAL stays", h, Due.at(0, 6, 0), MIN, MAX, 1);
    }

    private static void oneMark() {
        // LOCAL 0 is 0 .. 9; x and y are both of it
        int[] lines = {1, 0, 0, 9, 12, 0, 2, 0, 1, 0, 1, 0, 20, 8, 33, 0, 33, 0};
        AnalysisHouse h = Due.analysed(1, 1, 0, 0, lines);
        Due.span("= itself", h, Due.at(0, 8, 0), 0, 9, 1);
        Due.span("not = itself", h, Due.at(0, 7, 0), 0, 9, 1);
        lines[12] = 22;
        h = Due.analysed(1, 1, 0, 0, lines);
        Due.span("< itself: 0 .. 8 within 1 .. 9", h, Due.at(0, 8, 0), 1, 8, 1);
        Due.span(">= itself", h, Due.at(0, 7, 0), 0, 9, 1);
        lines[3] = 1;
        h = Due.analysed(1, 1, 0, 0, lines);
        Due.due("< itself of 0 .. 1: 0 within 1: NOTHING", h.reached(0, 8), false);
        Due.span(">= itself of 0 .. 1", h, Due.at(0, 7, 0), 0, 1, 1);
    }

    private static void nulls() {
        int[] lines = {1, 0, 1, 0, 26, 4, 33, 0, 33, 0};
        AnalysisHouse h = Due.analysed(1, 1, 1, 0, lines);
        Due.set("26 a: LOCAL", h, Due.at(0, 4, 0), 0, true);
        Due.set("26 a: stack", h, Due.at(0, 4, 10), 0, true);
        Due.set("26 next: LOCAL", h, Due.at(0, 3, 0), 1, false);
        Due.set("26 next: stack", h, Due.at(0, 3, 10), 1, false);
        lines[4] = 27;
        h = Due.analysed(1, 1, 1, 0, lines);
        Due.set("27 a: LOCAL", h, Due.at(0, 4, 0), 1, false);
        Due.set("27 next: LOCAL", h, Due.at(0, 3, 0), 0, true);
        h = Due.analysed(0, 0, 0, 0, 3, 0, 26, 3, 33, 0, 33, 0);
        Due.due("26 of null: a", h.reached(0, 3), true);
        Due.due("26 of null: not next", h.reached(0, 2), false);
        h = Due.analysed(0, 0, 0, 0, 3, 0, 27, 3, 33, 0, 33, 0);
        Due.due("27 of null: not a", h.reached(0, 3), false);
        Due.due("27 of null: next", h.reached(0, 2), true);
        h = Due.analysed(0, 0, 0, 0, 0, 1, 28, 0, 26, 4, 33, 0, 33, 0);
        Due.due("26 of a new one: not a", h.reached(0, 4), false);
        Due.due("26 of a new one: next", h.reached(0, 3), true);
    }

    /** MARKS that are not the same go where ways meet; those that are the same stay. */
    private static void marksThatGo() {
        AnalysisHouse h = Due.analysed(2, 2, 0, 0,
            1, 0, 0, 0, 20, 5, 1, 0, 19, 6, 1, 1, 33, 0);
        Due.due("two MARKS", h.state(0, 6, 10, 5), Due.NONE);
        Due.due("one before", h.state(0, 4, 10, 5), 0);
        h = Due.analysed(2, 2, 0, 0, 1, 0, 0, 0, 20, 5, 1, 1, 19, 6, 1, 1, 33, 0);
        Due.due("the same MARK", h.state(0, 6, 10, 5), 1);
    }
}
