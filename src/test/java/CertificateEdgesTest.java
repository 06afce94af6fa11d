/** Promises 7 to 17, sentence by sentence: what is asked of THE CERTIFICATE, how it is altered, and the checker. */
public final class CertificateEdgesTest {
    private static final int MIN = Integer.MIN_VALUE;
    private static final int MAX = Integer.MAX_VALUE;

    public static void main(String[] args) {
        analyses();
        analysesAgain();
        reached();
        lastOfAll();
        lastSiteIsUsed();
        slots();
        whatOfStates();
        sites();
        fields();
        results();
        resultsOfThisSort();
        verdict();
        verdictsCounted();
        verdictsRefused();
        plants();
        plantsRefused();
        forgets();
        checks();
        checksRoots();
        checksSteps();
        checksSpans();
        checksSets();
        checksMarks();
        checksAll();
        checkChangesNothing();
        Due.end("CertificateEdgesTest");
    }

    private static AnalysisHouse methods(int count) {
        AnalysisHouse h = new AnalysisHouse();
        for (int m = 0; m < count; m++) {
            h.method(1, 1, 0, 0);
            h.code(m, 33, 0);
        }
        h.build();
        return h;
    }

    private static void analyses() {
        Due.of("THE ANALYSIS: how many PASSES. NONE: no BUILD, bits beyond the METHODS.");
        for (int count = 0; count <= 8; count++) {
            AnalysisHouse h = methods(count);
            Due.due("none of " + count, h.analyze(0), 1);
            Due.due("all of " + count, h.analyze((1 << count) - 1), count == 0 ? 1 : 2);
            Due.due("one beyond " + count, h.analyze(1 << count), Due.NONE);
            Due.due("all and one beyond " + count, h.analyze((2 << count) - 1), Due.NONE);
            for (int none : new int[] {-1, MIN, MAX, 256, 1 << 30}) {
                Due.due(none + " of " + count, h.analyze(none), Due.NONE);
            }
        }
        AnalysisHouse h = new AnalysisHouse();
        Due.due("no BUILD", h.analyze(0), Due.NONE);
        h.method(0, 0, 0, 0);
        h.build();
        Due.due("no BUILD but a FAULT", h.analyze(0), Due.NONE);
    }

    private static void analysesAgain() {
        Due.of("THE ANALYSIS: how many PASSES. NONE: no BUILD, bits beyond the METHODS.");
        AnalysisHouse h = methods(2);
        h.analyze(1);
        h.analyze(4);
        Due.due("refused: METHOD 0 is come to still", h.reached(0, 0), true);
        h.plant(0, 0, 0, 1, 1);
        Due.due("refused: its ROOTS are still those", h.check(), -1000);
        h.analyze(2);
        Due.due("again: METHOD 0 is not come to", h.reached(0, 0), false);
        Due.due("again: METHOD 1 is", h.reached(1, 0), true);
        Due.due("again: its own ROOTS", h.check(), 1);
        h.analyze(1);
        Due.span("what was planted is gone", h, Due.at(0, 0, 0), MIN, MAX, 1);
    }

    /** METHODS, PLACES, SITES: the last of each there can be, told and then not told any more. */
    private static void lastOfAll() {
        Due.of("Whether a PLACE has a STATE in THE CERTIFICATE. False: also no such one, no CERTIFICATE.");
        AnalysisHouse h = new AnalysisHouse();
        for (int m = 0; m < 8; m++) {
            h.method(0, 0, 0, 1);
            int[] made = Lines.of(0, m + 1, 28, 0, 5, 0, 0, 0, 0, m - 9, 31, 0, 4, 0);
            int[] more = Lines.times(2, 0, 1, 28, 0, 4, 0);
            int[] rest = Lines.join(Lines.times(22, 0, 1, 4, 0), Lines.of(0, -m, 18, 0, 33, 0));
            Due.code(h, m, Lines.join(more, made, rest));
        }
        Due.due("24 SITES", h.build(), 25);
        Due.due("some PASSES", h.analyze(255), 2);
        for (int k = 0; k < 2; k++) {
            Due.due("PLACE 59 of METHOD 7", h.reached(7, 59), k == 0);
            Due.due("RESULT of METHOD 7", h.result(7, 5), k == 0 ? 1 : 0);
            Due.due("RESULT of METHOD 7: low", h.result(7, 0), k == 0 ? 7 : Due.NO);
            Due.due("LENGTH of SITE 24", h.site(24, 0), k == 0 ? 8 : Due.NO);
            Due.due("ELEMENT of SITE 24: low", h.site(24, 3), k == 0 ? -2 : Due.NO);
            Due.due("ELEMENT of SITE 24: high", h.site(24, 4), k == 0 ? 0 : Due.NO);
            Due.due("LENGTH of SITE 23", h.site(23, 0), k == 0 ? 1 : Due.NO);
            Due.due("PLACE of SITE 24", h.site(24, 7), 7);
            h.analyze(0);
        }
    }

    /** What is told of an ARRAY of SITE 24 is used by 29 to 31 and by VERDICTS. */
    private static void lastSiteIsUsed() {
        Due.of("Of a SITE: 0 to 2 low, high, STRIDE of its LENGTH, 3 to 5 of its ELEMENT;");
        AnalysisHouse h = new AnalysisHouse();
        h.method(0, 0, 0, 0);
        Due.code(h, 0, Lines.join(Lines.times(19, 0, 1, 28, 0, 4, 0), Lines.of(33, 0)));
        h.method(0, 1, 1, 0);
        Due.code(h, 1, Lines.join(Lines.times(4, 0, 1, 28, 0, 4, 0), Lines.of(
            0, 6, 28, 0, 2, 0, 1, 0, 29, 0, 1, 0, 0, 5, 0, 9, 31, 0, 1, 0, 0, 5, 30, 0, 33, 0)));
        Due.due("24 SITES", h.build(), 25);
        h.analyze(2);
        Due.due("its LENGTH by 29", h.state(1, 17, 10, 0), 6);
        Due.due("31: VERDICT 3", h.verdict(1, 20, 3), 1);
        Due.due("30: VERDICT 3", h.verdict(1, 23, 3), 1);
        Due.due("its ELEMENT by 30", h.state(1, 24, 11, 1), 9);
        Due.due("its ELEMENT", h.site(24, 4), 9);
        Due.due("another one's", h.site(23, 4), 0);
        Due.due("check", h.check(), 1);
    }

    private static void reached() {
        Due.of("Whether a PLACE has a STATE in THE CERTIFICATE. False: also no such one, no CERTIFICATE.");
        AnalysisHouse h = Due.built(0, 0, 0, 0, Lines.join(Lines.of(19, 59), Lines.times(58, 0, 1), Lines.of(33, 0)));
        Due.due("no CERTIFICATE", h.reached(0, 0), false);
        h.analyze(1);
        Due.due("PLACE 0", h.reached(0, 0), true);
        Due.due("PLACE 59", h.reached(0, 59), true);
        Due.due("PLACE 1 has none", h.reached(0, 1), false);
        Due.due("PLACE 58 has none", h.reached(0, 58), false);
        for (int none : new int[] {-1, 60, 61, MIN, MAX}) {
            Due.due("PLACE " + none, h.reached(0, none), false);
        }
        for (int none : new int[] {-1, 1, 7, 8, MIN, MAX}) {
            Due.due("METHOD " + none, h.reached(none, 0), false);
        }
        h = new AnalysisHouse();
        for (int m = 0; m < 8; m++) {
            h.method(0, 0, 0, 0);
            Due.code(h, m, m == 7 ? Lines.times(60, 33, 0) : Lines.of(33, 0));
        }
        h.build();
        h.analyze(255);
        Due.due("METHOD 7", h.reached(7, 0), true);
        Due.due("PLACE 1 of METHOD 0, of which it has one", h.reached(0, 1), false);
    }

    /** Six LOCALS, the last an ARRAY; eight on the stack at PLACE 8, the last an ARRAY. */
    private static AnalysisHouse full() {
        int[] lines = new int[0];
        for (int i = 0; i < 7; i++) {
            lines = Lines.join(lines, Lines.of(0, 20 + i));
        }
        return Due.analysed(1, 6, 32, 0, Lines.join(lines, Lines.of(1, 5, 33, 0)));
    }

    private static void slots() {
        Due.of("Of a STATE: slot 0 .. 5 a LOCAL, 10 + i the stack's i-th (0 the lowest):");
        AnalysisHouse h = full();
        Due.due("LOCAL 0", h.state(0, 8, 0, 0), MIN);
        for (int local = 1; local < 5; local++) {
            Due.due("LOCAL " + local, h.state(0, 8, local, 0), 0);
        }
        Due.due("LOCAL 5", h.state(0, 8, 5, 4), 1);
        for (int i = 0; i < 7; i++) {
            Due.due("the stack's " + i, h.state(0, 8, 10 + i, 0), 20 + i);
        }
        Due.due("the stack's last", h.state(0, 8, 17, 4), 1);
        for (int none : new int[] {-1, 6, 7, 8, 9, 18, 19, MIN, MAX}) {
            for (int what = 0; what < 6; what++) {
                Due.due("slot " + none, h.state(0, 8, none, what), Due.NO);
            }
        }
        Due.due("the stack's last lies there", h.state(0, 7, 16, 0), 26);
        Due.due("none lies above", h.state(0, 7, 17, 4), Due.NO);
        Due.due("an empty stack", h.state(0, 0, 10, 0), Due.NO);
        h = Due.analysed(0, 0, 0, 0, 0, 7, 33, 0);
        Due.due("no LOCALS", h.state(0, 1, 0, 0), Due.NO);
        Due.due("no LOCALS, a stack", h.state(0, 1, 10, 0), 7);
        h = Due.analysed(0, 2, 0, 0, 0, 7, 33, 0);
        Due.due("LOCAL 1 of 2", h.state(0, 1, 1, 0), 0);
        Due.due("LOCAL 2 of 2", h.state(0, 1, 2, 0), Due.NO);
        Due.due("LOCAL 5 of 2", h.state(0, 1, 5, 0), Due.NO);
    }

    private static void whatOfStates() {
        Due.of("NO: no such STATE, slot, what (of 0 to 2 a SET, of 3, 4 a SPAN).");
        AnalysisHouse h = full();
        for (int what = 0; what <= 2; what++) {
            Due.due("of a SPAN", h.state(0, 8, 10, what), what == 2 ? 0 : 20);
            Due.due("of a LOCAL's SPAN", h.state(0, 8, 1, what), 0);
            Due.due("of a SET", h.state(0, 8, 17, what), Due.NO);
            Due.due("of a LOCAL's SET", h.state(0, 8, 5, what), Due.NO);
        }
        for (int what = 3; what <= 4; what++) {
            Due.due("of a SPAN", h.state(0, 8, 10, what), Due.NO);
            Due.due("of a LOCAL's SPAN", h.state(0, 8, 1, what), Due.NO);
            Due.due("of a SET", h.state(0, 8, 17, what), what == 3 ? 0 : 1);
            Due.due("of a LOCAL's SET", h.state(0, 8, 5, what), what == 3 ? 0 : 1);
        }
        Due.of("what = 0 low, 1 high, 2 STRIDE, of a SET: 3 its SITES as bits, 4 whether it may be null (1, 0); of the "
            + "stack 5 the MARK (NONE).");
        AnalysisHouse g = Due.analysed(1, 2, 2, 0, 1, 0, 0, 3, 12, 0, 0, 6, 9, 0, 0, 2, 28, 0, 33, 0);
        long[] threes = {0, 18, 6};
        for (int what = 0; what <= 2; what++) {
            Due.due("0, 6, 12, 18", g.state(0, 7, 10, what), threes[what]);
        }
        Due.due("SITES as bits", g.state(0, 7, 11, 3), 2);
        Due.due("it may not be null", g.state(0, 7, 11, 4), 0);
        Due.due("it may be null", g.state(0, 7, 1, 4), 1);
        Due.due("no MARK", h.state(0, 8, 10, 5), Due.NONE);
        Due.due("a MARK", h.state(0, 8, 17, 5), 5);
        Due.due("a LOCAL has no MARK", h.state(0, 8, 1, 5), Due.NO);
        Due.due("nor has a LOCAL's SET", h.state(0, 8, 5, 5), Due.NO);
        Due.of("NO: no such STATE, slot, what (of 0 to 2 a SET, of 3, 4 a SPAN).");
        for (int none : new int[] {-1, 6, 7, MIN, MAX}) {
            for (int slot : new int[] {0, 5, 10, 17}) {
                Due.due("what " + none, h.state(0, 8, slot, none), Due.NO);
            }
        }
        for (int none : new int[] {-1, 9, 60, MIN, MAX}) {
            Due.due("PLACE " + none, h.state(0, none, 0, 0), Due.NO);
        }
        for (int none : new int[] {-1, 1, 8, MIN, MAX}) {
            Due.due("METHOD " + none, h.state(none, 0, 0, 0), Due.NO);
        }
        h.analyze(0);
        Due.due("a PLACE without STATE", h.state(0, 0, 0, 0), Due.NO);
    }

    private static void sites() {
        Due.of("Of a SITE: 0 to 2 low, high, STRIDE of its LENGTH, 3 to 5 of its ELEMENT; 6 METHOD, 7 PLACE (NONE of "
            + "OUTSIDE). NO: no such one (0 to 5: NOTHING is told, no CERTIFICATE; 6, 7: no BUILD).");
        AnalysisHouse h = new AnalysisHouse();
        h.method(0, 0, 0, 0);
        h.code(0, 33, 0);
        h.method(1, 1, 0, 0);
        Due.code(h, 1, 1, 0, 0, 6, 12, 0, 0, 2, 9, 0, 28, 0, 0, 0, 0, 9, 31, 0, 0, -1, 28, 0, 33, 0);
        Due.due("no BUILD", h.site(1, 6), Due.NO);
        Due.due("two SITES", h.build(), 3);
        Due.due("METHOD without a CERTIFICATE", h.site(1, 6), 1);
        Due.due("PLACE without a CERTIFICATE", h.site(1, 7), 5);
        for (int what = 0; what < 6; what++) {
            Due.due("no CERTIFICATE", h.site(0, what), Due.NO);
        }
        h.analyze(2);
        long[] outside = {0, MAX, 1, MIN, MAX, 1, Due.NONE, Due.NONE};
        long[] one = {0, 12, 2, 0, 9, 9, 1, 5};
        long[] two = {Due.NO, Due.NO, Due.NO, Due.NO, Due.NO, Due.NO, 1, 10};
        for (int what = 0; what < 8; what++) {
            Due.due("OUTSIDE: " + what, h.site(0, what), outside[what]);
            Due.due("SITE 1: " + what, h.site(1, what), one[what]);
            Due.due("SITE 2, NOTHING is told: " + what, h.site(2, what), two[what]);
            for (int none : new int[] {-1, 3, 24, 25, MIN, MAX}) {
                Due.due("SITE " + none, h.site(none, what), Due.NO);
            }
        }
        for (int none : new int[] {-1, 8, 9, MIN, MAX}) {
            Due.due("what " + none + " of OUTSIDE", h.site(0, none), Due.NO);
            Due.due("what " + none, h.site(1, none), Due.NO);
        }
        h.build();
        for (int what = 0; what < 6; what++) {
            Due.due("no CERTIFICATE any more", h.site(1, what), Due.NO);
        }
        Due.due("PLACE of the new BUILD", h.site(1, 7), 5);
    }

    private static void fields() {
        Due.of("Of a FIELD: 0 to 2 low, high, STRIDE. NO: no such one, no CERTIFICATE.");
        AnalysisHouse h = Due.built(0, 0, 0, 0, 0, -6, 35, 3, 0, 9, 35, 0, 33, 0);
        Due.due("no CERTIFICATE", h.field(0, 0), Due.NO);
        h.analyze(1);
        long[][] want = {{0, 9, 9}, {0, 0, 0}, {0, 0, 0}, {-6, 0, 6}};
        for (int f = 0; f < 4; f++) {
            for (int what = 0; what < 3; what++) {
                Due.due("FIELD " + f + ": " + what, h.field(f, what), want[f][what]);
            }
            for (int none : new int[] {-1, 3, 4, 5, MIN, MAX}) {
                Due.due("what " + none, h.field(f, none), Due.NO);
            }
        }
        for (int none : new int[] {-1, 4, MIN, MAX}) {
            Due.due("FIELD " + none, h.field(none, 0), Due.NO);
        }
        h.build();
        Due.due("no CERTIFICATE any more", h.field(0, 0), Due.NO);
    }

    private static void results() {
        Due.of("Of a METHOD's RESULT: 0 to 4 as state(); 5 whether it may return (1, 0). NO: no such one, no "
            + "CERTIFICATE, it may not return (0 to 4), none of this sort.");
        AnalysisHouse h = new AnalysisHouse();
        for (int result = 0; result <= 2; result++) {
            h.method(0, 0, 0, result);
            h.method(0, 0, 0, result);
        }
        Due.code(h, 0, 33, 0);
        Due.code(h, 1, 19, 0);
        Due.code(h, 2, 0, 7, 33, 0);
        Due.code(h, 3, 19, 0);
        Due.code(h, 4, 0, 2, 28, 0, 33, 0);
        Due.code(h, 5, 19, 0);
        h.build();
        Due.due("no CERTIFICATE", h.result(2, 5), Due.NO);
        h.analyze(63);
        long[][] want = {
            {Due.NO, Due.NO, Due.NO, Due.NO, Due.NO, 1}, {Due.NO, Due.NO, Due.NO, Due.NO, Due.NO, 0},
            {7, 7, 0, Due.NO, Due.NO, 1}, {Due.NO, Due.NO, Due.NO, Due.NO, Due.NO, 0},
            {Due.NO, Due.NO, Due.NO, 2, 0, 1}, {Due.NO, Due.NO, Due.NO, Due.NO, Due.NO, 0}
        };
        for (int m = 0; m < 6; m++) {
            for (int what = 0; what < 6; what++) {
                Due.due("METHOD " + m + ": " + what, h.result(m, what), want[m][what]);
            }
            for (int none : new int[] {-1, 6, MIN, MAX}) {
                Due.due("what " + none, h.result(m, none), Due.NO);
            }
        }
        for (int none : new int[] {-1, 6, 7, 8, MIN, MAX}) {
            Due.due("METHOD " + none, h.result(none, 5), Due.NO);
        }
        h.build();
        Due.due("no CERTIFICATE any more", h.result(2, 5), Due.NO);
        h.analyze(0);
        Due.due("no ROOT", h.result(2, 5), 0);
        Due.due("no ROOT: low", h.result(2, 0), Due.NO);
    }

    private static void resultsOfThisSort() {
        Due.of("none of this sort.");
        AnalysisHouse h = new AnalysisHouse();
        for (int m = 0; m < 8; m++) {
            h.method(0, 0, 0, m == 7 ? 1 : 0);
            Due.code(h, m, m == 7 ? Lines.of(0, MIN, 33, 0) : Lines.of(33, 0));
        }
        h.build();
        h.analyze(255);
        Due.due("METHOD 7", h.result(7, 0), MIN);
        Due.due("METHOD 6 has none", h.result(6, 0), Due.NO);
        Due.due("METHOD 8", h.result(8, 5), Due.NO);
    }

    private static void verdict() {
        Due.of("The VERDICT. NONE: no such PLACE, wrong not 1 to 4, no CERTIFICATE.");
        AnalysisHouse h = Due.built(1, 1, 0, 0, 0, 1, 1, 0, 10, 0, 33, 0);
        Due.due("no CERTIFICATE", h.verdict(0, 2, 1), Due.NONE);
        h.analyze(1);
        Due.due("perhaps", h.verdict(0, 2, 1), 2);
        Due.due("WRONG 4", h.verdict(0, 2, 4), 1);
        for (int none : new int[] {-1, 0, 5, 6, MIN, MAX}) {
            Due.due("WRONG " + none, h.verdict(0, 2, none), Due.NONE);
        }
        for (int none : new int[] {-1, 4, 60, MIN, MAX}) {
            Due.due("PLACE " + none, h.verdict(0, none, 1), Due.NONE);
        }
        for (int none : new int[] {-1, 1, 8, MIN, MAX}) {
            Due.due("METHOD " + none, h.verdict(none, 0, 1), Due.NONE);
        }
        h.plant(0, 2, 11, 0, 0);
        Due.due("by what is planted", h.verdict(0, 2, 1), 3);
        h.plant(0, 2, 11, 1, 2);
        Due.due("by what is planted then", h.verdict(0, 2, 1), 1);
        h.build();
        Due.due("no CERTIFICATE any more", h.verdict(0, 2, 1), Due.NONE);
    }

    /** How many of 0, 1, 2, 3 there are for one INSTRUCTION on these. */
    private static void counted(String what, int[] put, int op, int... want) {
        int a = op == 19 ? put.length / 2 + 1 : 0;
        AnalysisHouse h = Due.analysed(2, 2, 2, 0, Lines.join(put, Lines.of(op, a, 33, 0)));
        for (int verdict = 0; verdict <= 3; verdict++) {
            Due.due(what + " " + op + ": " + verdict, h.verdicts(verdict), want[verdict]);
        }
        h.analyze(0);
        int all = want[1] + want[2] + want[3];
        Due.due(what + " " + op + ", no ROOT", h.verdicts(0), all);
        Due.due(what + " " + op + ", no ROOT: 1", h.verdicts(1), 0);
    }

    private static void verdictsCounted() {
        Due.of("How many VERDICTS of INSTRUCTIONS and WRONGS (10, 11 of 1; 29 to 31 of 2; 30, 31 of 3; 28 of 4) are this "
            + "one (0 .. 3).");
        for (int op = 10; op <= 11; op++) {
            counted("by 5", Lines.of(0, 1, 0, 5), op, 0, 1, 0, 0);
            counted("by any", Lines.of(0, 1, 1, 0), op, 0, 0, 1, 0);
            counted("by 0", Lines.of(0, 1, 0, 0), op, 0, 0, 0, 1);
        }
        counted("of 5", Lines.of(0, 5), 28, 0, 1, 0, 0);
        counted("of any", Lines.of(1, 0), 28, 0, 0, 1, 0);
        counted("of -5", Lines.of(0, -5), 28, 0, 0, 0, 1);
        counted("of an argument", Lines.of(1, 1), 29, 0, 0, 1, 0);
        counted("of null", Lines.of(3, 0), 29, 0, 0, 0, 1);
        counted("of an argument at 0", Lines.of(1, 1, 0, 0), 30, 0, 0, 2, 0);
        counted("of an argument at -1", Lines.of(1, 1, 0, -1), 30, 0, 0, 1, 1);
        counted("of null at 0", Lines.of(3, 0, 0, 0), 30, 0, 1, 0, 1);
        counted("of an argument at 0", Lines.of(1, 1, 0, 0, 0, 9), 31, 0, 0, 2, 0);
        counted("of null at 0", Lines.of(3, 0, 0, 0, 0, 9), 31, 0, 1, 0, 1);
        counted("others", Lines.of(0, 1, 0, 0), 7, 0, 0, 0, 0);
        counted("others", Lines.of(0, -1), 18, 0, 0, 0, 0);
        counted("others", Lines.of(3, 0), 4, 0, 0, 0, 0);
        counted("others", Lines.of(3, 0), 19, 0, 0, 0, 0);
        // in all METHODS, those without a STATE or a SHAPE among them
        AnalysisHouse h = new AnalysisHouse();
        for (int m = 0; m < 8; m++) {
            h.method(0, 0, 0, 0);
            Due.code(h, m, 0, 1, 0, 0, 11, 0, 33, 0, 31, 0);
        }
        h.build();
        h.analyze(129);
        Due.due("0: 31 of each, 11 of six", h.verdicts(0), 22);
        Due.due("3: of METHODS 0 and 7", h.verdicts(3), 2);
    }

    private static void verdictsRefused() {
        Due.of("NONE: another, no CERTIFICATE.");
        AnalysisHouse h = Due.built(0, 0, 0, 0, 33, 0);
        for (int verdict = 0; verdict <= 3; verdict++) {
            Due.due("no CERTIFICATE", h.verdicts(verdict), Due.NONE);
        }
        h.analyze(1);
        for (int verdict = 0; verdict <= 3; verdict++) {
            Due.due("there are none of " + verdict, h.verdicts(verdict), 0);
        }
        for (int none : new int[] {-1, 4, MIN, MAX}) {
            Due.due("another: " + none, h.verdicts(none), Due.NONE);
        }
    }

    private static void plants() {
        Due.of("In THE CERTIFICATE a SPAN of a STATE (slot as in state()) is all of low .. high, STRIDE 1 (0).");
        AnalysisHouse h = full();
        int[][] spans = {{3, 9}, {4, 4}, {MIN, MAX}, {MIN, MIN}, {MAX, MAX}, {-1, 0}};
        for (int[] span : spans) {
            for (int slot : new int[] {0, 4, 10, 16}) {
                Due.due("planted", h.plant(0, 8, slot, span[0], span[1]), true);
                Due.span("planted", h, Due.at(0, 8, slot), span[0], span[1], span[0] == span[1] ? 0 : 1);
            }
        }
        Due.due("another PLACE stays", h.state(0, 7, 10, 0), 20);
        Due.due("another slot stays", h.state(0, 8, 11, 0), 21);
        Due.due("the SET stays", h.state(0, 8, 17, 5), 5);
        h = Due.analysed(1, 1, 0, 0, 1, 0, 33, 0);
        h.plant(0, 1, 10, 2, 3);
        Due.due("its MARK stays", h.state(0, 1, 10, 5), 0);
        Due.span("what its MARK tells of stays", h, Due.at(0, 1, 0), MIN, MAX, 1);
        h.plant(0, 1, 0, 8, 9);
        Due.span("what has the MARK stays", h, Due.at(0, 1, 10), 2, 3, 1);
    }

    private static void plantsRefused() {
        Due.of("False: no such SPAN, low above high.");
        AnalysisHouse h = full();
        Due.due("low above high", h.plant(0, 8, 10, 1, 0), false);
        Due.due("the greatest above the least", h.plant(0, 8, 10, MAX, MIN), false);
        Due.due("a SET on the stack", h.plant(0, 8, 17, 0, 1), false);
        Due.due("a LOCAL's SET", h.plant(0, 8, 5, 0, 1), false);
        Due.due("a SET without null", Due.analysed(0, 0, 0, 0, 0, 1, 28, 0, 33, 0).plant(0, 2, 10, 0, 1), false);
        for (int none : new int[] {-1, 6, 9, 18, MIN, MAX}) {
            Due.due("slot " + none, h.plant(0, 8, none, 0, 1), false);
        }
        Due.due("nothing lies there", h.plant(0, 6, 16, 0, 1), false);
        for (int none : new int[] {-1, 9, 60, MIN, MAX}) {
            Due.due("PLACE " + none, h.plant(0, none, 0, 0, 1), false);
        }
        for (int none : new int[] {-1, 1, 8, MIN, MAX}) {
            Due.due("METHOD " + none, h.plant(none, 0, 0, 0, 1), false);
        }
        Due.due("nothing was altered", h.check(), 1);
        Due.due("nothing was altered", h.state(0, 8, 10, 0), 20);
        h.forgetState(0, 8);
        Due.due("no STATE", h.plant(0, 8, 10, 0, 1), false);
        h.build();
        Due.due("no CERTIFICATE", h.plant(0, 0, 0, 0, 1), false);
    }

    private static void forgets() {
        Due.of("In THE CERTIFICATE a PLACE has no STATE any more. False: it has none.");
        AnalysisHouse h = full();
        Due.due("PLACE 8", h.forgetState(0, 8), true);
        Due.due("it has none any more", h.reached(0, 8), false);
        Due.due("again", h.forgetState(0, 8), false);
        Due.due("its SPANS", h.state(0, 8, 0, 0), Due.NO);
        Due.due("PLACE 7 has one", h.reached(0, 7), true);
        Due.due("PLACE 0", h.forgetState(0, 0), true);
        for (int none : new int[] {-1, 9, 60, MIN, MAX}) {
            Due.due("PLACE " + none, h.forgetState(0, none), false);
        }
        for (int none : new int[] {-1, 1, 8, MIN, MAX}) {
            Due.due("METHOD " + none, h.forgetState(none, 0), false);
        }
        h.analyze(1);
        Due.due("analyze() tells all anew", h.reached(0, 8), true);
        h.analyze(0);
        Due.due("no STATE", h.forgetState(0, 0), false);
        h.build();
        Due.due("no CERTIFICATE", h.forgetState(0, 0), false);
    }

    private static void checks() {
        Due.of("Whether THE CERTIFICATE HOLDS for the ROOTS of its analyze(): 1;");
        AnalysisHouse h = full();
        Due.due("it holds", h.check(), 1);
        h.analyze(0);
        Due.due("nothing holds for no ROOTS", h.check(), 1);
        Due.of("NONE: no CERTIFICATE.");
        Due.due("a BUILD alone", Due.built(0, 0, 0, 0, 33, 0).check(), Due.NONE);
        h.build();
        Due.due("built again", h.check(), Due.NONE);
    }

    private static void checksRoots() {
        Due.of("else -1000 less the first ROOT whose ARGUMENTS do not,");
        for (int root = 0; root < 8; root++) {
            AnalysisHouse h = methods(8);
            h.analyze(255);
            h.plant(root, 0, 0, MIN, MAX - 1);
            Due.due("ROOT " + root + " without the greatest", h.check(), -1000 - root);
            h.plant(root, 0, 0, MIN + 1, MAX);
            Due.due("ROOT " + root + " without the least", h.check(), -1000 - root);
            h.plant(7, 0, 0, 0, 0);
            Due.due("the first of two ROOTS", h.check(), -1000 - root);
            h.plant(7, 0, 0, MIN, MAX);
            h.plant(root, 0, 0, MIN, MAX);
            Due.due("as it was", h.check(), 1);
            h.forgetState(root, 0);
            Due.due("ROOT " + root + " forgotten", h.check(), -1000 - root);
            h.analyze(255 - (1 << root));
            h.forgetState(root, 0);
            Due.due("METHOD " + root + " is no ROOT", h.check(), 1);
        }
        // ROOTS before STEPS
        AnalysisHouse h = new AnalysisHouse();
        h.method(0, 0, 0, 0);
        Due.code(h, 0, 0, 1, 33, 0);
        h.method(1, 2, 0, 0);
        Due.code(h, 1, 33, 0);
        h.build();
        h.analyze(3);
        h.forgetState(0, 1);
        Due.due("a STEP of METHOD 0", h.check(), -2000);
        h.plant(1, 0, 1, 1, 1);
        Due.due("another LOCAL of ROOT 1 is seen before", h.check(), -1001);
    }

    private static void checksSteps() {
        Due.of("or -2000 less 100 times the METHOD and the PLACE of the first whose STEP does not");
        AnalysisHouse h = new AnalysisHouse();
        for (int m = 0; m < 8; m++) {
            h.method(0, 0, 0, 1);
            Due.code(h, m, Lines.join(Lines.times(29, 0, 1, 4, 0), Lines.of(0, 1, 33, 0)));
        }
        h.build();
        h.analyze(255);
        for (int m = 7; m >= 0; m--) {
            h.plant(m, 59, 10, 1, 2);
            Due.due("METHOD " + m + ", PLACE 59", h.check(), -2000 - 100 * m - 59);
            h.forgetState(m, 40);
            Due.due("METHOD " + m + ", PLACE 39", h.check(), -2000 - 100 * m - 39);
            h.forgetState(m, 1);
            Due.due("METHOD " + m + ", PLACE 0", h.check(), -2000 - 100 * m);
        }
        // a PLACE that was forgotten makes no STEP
        h = Due.analysed(0, 0, 0, 0, 0, 1, 4, 0, 19, 3, 33, 0);
        h.forgetState(0, 3);
        Due.due("forgotten", h.check(), -2002);
        h.forgetState(0, 2);
        Due.due("what went there is forgotten, too", h.check(), -2001);
        h.forgetState(0, 1);
        h.forgetState(0, 0);
        Due.due("all is forgotten: the ROOT", h.check(), -1000);
    }

    /** At PLACE 3 a number lies on the stack that at PLACE 2 was planted, with 0 on top of it, which 7 adds. */
    private static void spans(String what, int low, int high, int planted, int most, boolean holds) {
        AnalysisHouse h = Due.analysed(0, 0, 0, 0, 0, low, 0, 0, 7, 0, 33, 0);
        h.plant(0, 2, 10, low, high);
        h.plant(0, 3, 10, planted, most);
        Due.due(what, h.check(), holds ? 1 : -2002);
    }

    private static void checksSpans() {
        Due.of("(each SPAN in the SPAN,");
        spans("the same", 3, 9, 3, 9, true);
        spans("more below", 3, 9, 2, 9, true);
        spans("more above", 3, 9, 3, 10, true);
        spans("less below", 3, 9, 4, 9, false);
        spans("less above", 3, 9, 3, 8, false);
        spans("one in one", 3, 3, 3, 3, true);
        spans("one in another one", 3, 3, 4, 4, false);
        spans("all in all", MIN, MAX, MIN, MAX, true);
        spans("all in all but the least", MIN, MAX, MIN + 1, MAX, false);
        spans("all in all but the greatest", MIN, MAX, MIN, MAX - 1, false);
        long[] sixes = Lines.is(0, 18, 6);
        comes(sixes, sixes, true);
        comes(sixes, Lines.is(0), true);
        comes(sixes, Lines.is(18), true);
        comes(sixes, Lines.is(12), true);
        comes(sixes, Lines.is(7), false);
        comes(sixes, Lines.is(-6), false);
        comes(sixes, Lines.is(24), false);
        comes(sixes, Lines.is(0, 12, 12), true);
        comes(sixes, Lines.is(6, 18, 12), true);
        comes(sixes, Lines.is(6, 12, 6), true);
        comes(sixes, Lines.is(0, 18, 3), false);
        comes(sixes, Lines.is(0, 18, 1), false);
        comes(sixes, Lines.is(0, 18, 9), false);
        comes(sixes, Lines.is(0, 12, 4), false);
        comes(sixes, Lines.is(3, 15, 6), false);
        comes(Lines.is(5), Lines.is(5), true);
        comes(Lines.is(5), Lines.is(4), false);
        comes(Lines.is(5), Lines.is(5, 6, 1), false);
        comes(Lines.is(0, 18, 1), sixes, true);
    }

    /** Where one SPAN is told another one comes as well, once it may be that 5 = 6. */
    private static void comes(long[] told, long[] other, boolean holds) {
        int[] first = Lines.make(other, 0);
        int[] second = Lines.make(told, 0);
        int at = first.length / 2 + 2;
        int meeting = at + 2 + second.length / 2;
        AnalysisHouse h = Due.analysed(1, 1, 0, 0, Lines.join(
            first, Lines.of(0, 5, 0, 6, 20, meeting, 4, 0), second, Lines.of(33, 0)));
        Due.span("told", h, Due.at(0, meeting, 10), told[0], told[1], told[2]);
        Due.due("it holds", h.check(), 1);
        h.plant(0, at, 12, 5, 6);
        String what = other[0] + " .. " + other[1] + " by " + other[2] + " in ";
        Due.due(what + told[0] + " .. " + told[1] + " by " + told[2], h.check(), holds ? 1 : -2000 - at);
    }

    private static void checksSets() {
        Due.of("each SET in the SET,");
        // PLACE 6: an ARRAY of SITE 1 comes by PLACE 5; null by PLACE 3, once 5 = 6 may be
        AnalysisHouse h = Due.analysed(0, 0, 0, 0, 3, 0, 0, 5, 0, 6, 20, 7, 4, 0, 0, 1, 28, 0, 33, 0);
        Due.set("of SITE 1", h, Due.at(0, 7, 10), 2, false);
        h.plant(0, 3, 12, 5, 6);
        Due.due("null is not in it", h.check(), -2003);
        // SITE 2 comes where null and SITE 1 are told
        h = Due.analysed(1, 1, 0, 0,
            0, 1, 28, 0, 0, 5, 0, 6, 20, 13, 4, 0, 1, 0, 0, 0, 20, 12, 0, 2, 28, 0, 19, 13, 3, 0, 33, 0);
        Due.set("null or SITE 2", h, Due.at(0, 13, 10), 4, true);
        h.plant(0, 4, 12, 5, 6);
        Due.due("SITE 1 is not in it", h.check(), -2004);
    }

    private static void checksMarks() {
        Due.of("a MARK that it has is that of what comes;");
        AnalysisHouse h = Due.analysed(2, 2, 0, 0, 1, 0, 0, 5, 0, 6, 20, 6, 4, 0, 1, 1, 33, 0);
        h.plant(0, 3, 12, 5, 6);
        Due.due("another MARK comes", h.check(), -2003);
        h = Due.analysed(2, 2, 0, 0, 0, 0, 0, 5, 0, 6, 20, 6, 4, 0, 1, 1, 33, 0);
        h.plant(0, 3, 12, 5, 6);
        Due.due("no MARK comes", h.check(), -2003);
        h = Due.analysed(2, 2, 0, 0, 1, 1, 0, 5, 0, 6, 20, 6, 4, 0, 1, 1, 33, 0);
        h.plant(0, 3, 12, 5, 6);
        Due.due("the same MARK comes", h.check(), 1);
        // at PLACE 8 there is none: any may come
        h = Due.analysed(2, 2, 0, 0, 1, 0, 0, 5, 0, 6, 20, 8, 4, 0, 1, 1, 0, 0, 7, 0, 33, 0);
        h.plant(0, 3, 12, 5, 6);
        Due.due("it has none", h.check(), 1);
    }

    /** METHOD 1 (an INT) makes an ARRAY of it, puts it there and to FIELD 0, and gives it back; METHOD 0 gives 5. */
    private static AnalysisHouse using() {
        AnalysisHouse h = new AnalysisHouse();
        h.method(0, 0, 0, 0);
        Due.code(h, 0, 0, 5, 32, 1, 4, 0, 33, 0);
        h.method(1, 2, 2, 1);
        Due.code(h, 1, 1, 0, 28, 0, 2, 1, 1, 1, 0, 0, 1, 0, 31, 0, 1, 0, 35, 0, 1, 0, 33, 0);
        h.build();
        h.analyze(1);
        return h;
    }

    private static void checksAll() {
        Due.of("IT HOLDS if what comes by the ROOTS, and by each STEP of its STATES, is in it already");
        int[][] plants = {{1, 1, 10}, {1, 6, 12}, {1, 8, 10}, {1, 10, 10}, {0, 1, 10}};
        int[] fails = {-2101, -2106, -2108, -2110, -2001};
        String[] names = {"a LENGTH", "an ELEMENT", "a FIELD", "a RESULT", "ARGUMENTS"};
        for (int i = 0; i < plants.length; i++) {
            AnalysisHouse h = using();
            Due.due("it holds", h.check(), 1);
            h.plant(plants[i][0], plants[i][1], plants[i][2], 4, 5);
            Due.due(names[i], h.check(), fails[i]);
            h.plant(plants[i][0], plants[i][1], plants[i][2], 5, 5);
            Due.due(names[i] + " as it was", h.check(), 1);
        }
        AnalysisHouse h = using();
        h.forgetState(1, 0);
        Due.due("the METHOD that is called", h.check(), -2001);
        h = using();
        h.forgetState(0, 2);
        Due.due("behind the call", h.check(), -2001);
        h = using();
        h.plant(0, 2, 10, 6, 6);
        Due.due("the RESULT behind the call", h.check(), -2001);
        h = using();
        h.plant(1, 6, 12, 0, 0);
        Due.due("what comes is not in what is planted", h.check(), -2105);
    }

    private static void checkChangesNothing() {
        Due.of("Whether THE CERTIFICATE HOLDS for the ROOTS of its analyze(): 1;");
        AnalysisHouse h = using();
        h.plant(1, 1, 10, 3, 9);
        h.plant(1, 8, 10, 3, 9);
        for (int k = 0; k < 3; k++) {
            Due.due("asked again", h.check(), -2101);
            Due.due("LENGTH", h.site(1, 1), 5);
            Due.due("FIELD", h.field(0, 1), 5);
            Due.due("planted", h.state(1, 1, 10, 0), 3);
        }
    }
}
