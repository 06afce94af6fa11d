/** Promises 11 and 12 and the STEPS of 32 to 35: what METHODS are given, give back, and FIELDS. */
public final class CallsTest {
    private static final int MIN = Integer.MIN_VALUE;
    private static final int MAX = Integer.MAX_VALUE;

    public static void main(String[] args) {
        fields();
        results();
        arguments();
        callsWithoutReturn();
        recursion();
        roots();
        Due.end("CallsTest");
    }

    private static void field(String what, AnalysisHouse h, int f, long low, long high, long stride) {
        Due.due(what + " low", h.field(f, 0), low);
        Due.due(what + " high", h.field(f, 1), high);
        Due.due(what + " stride", h.field(f, 2), stride);
    }

    private static void fields() {
        AnalysisHouse h = Due.built(0, 0, 0, 1, 0, 12, 35, 1, 0, 8, 35, 1, 34, 1, 33, 0);
        Due.due("no CERTIFICATE", h.field(1, 0), Due.NO);
        h.analyze(1);
        field("FIELD 0", h, 0, 0, 0, 0);
        field("FIELD 1", h, 1, 0, 12, 4);
        Due.span("34", h, Due.at(0, 5, 10), 0, 12, 4);
        Due.due("34: MARK", h.state(0, 5, 10, 5), Due.NONE);
        Due.due("FIELD 4", h.field(4, 0), Due.NO);
        Due.due("FIELD -1", h.field(-1, 0), Due.NO);
        Due.due("what 3", h.field(0, 3), Due.NO);
        Due.due("what -1", h.field(0, -1), Due.NO);
        field("FIELD 3", h, 3, 0, 0, 0);
    }

    private static void results() {
        AnalysisHouse h = new AnalysisHouse();
        h.method(1, 1, 0, 0);
        Due.code(h, 0, 33, 0);
        h.method(1, 1, 1, 2);
        Due.code(h, 1, 1, 0, 33, 0);
        h.method(0, 0, 0, 1);
        Due.code(h, 2, 0, 5, 33, 0);
        h.method(0, 0, 0, 1);
        Due.code(h, 3, 19, 0);
        h.build();
        Due.due("no CERTIFICATE", h.result(0, 5), Due.NO);
        h.analyze(11);
        Due.due("none: may return", h.result(0, 5), 1);
        for (int what = 0; what <= 4; what++) {
            Due.due("none: " + what, h.result(0, what), Due.NO);
        }
        Due.due("ARRAY: may return", h.result(1, 5), 1);
        Due.due("ARRAY: SITES", h.result(1, 3), 1);
        Due.due("ARRAY: null", h.result(1, 4), 1);
        Due.due("ARRAY: low", h.result(1, 0), Due.NO);
        Due.due("no ROOT: may not return", h.result(2, 5), 0);
        Due.due("no ROOT: low", h.result(2, 0), Due.NO);
        Due.due("for ever: may not return", h.result(3, 5), 0);
        Due.due("for ever: low", h.result(3, 0), Due.NO);
        Due.due("METHOD 4", h.result(4, 5), Due.NO);
        Due.due("METHOD -1", h.result(-1, 5), Due.NO);
        h.analyze(4);
        Due.due("INT: low", h.result(2, 0), 5);
        Due.due("INT: high", h.result(2, 1), 5);
        Due.due("INT: stride", h.result(2, 2), 0);
        Due.due("INT: SITES", h.result(2, 3), Due.NO);
        Due.due("INT: 6", h.result(2, 6), Due.NO);
        Due.due("INT: -1", h.result(2, -1), Due.NO);
        Due.due("another ROOT no more", h.result(0, 5), 0);
    }

    /** METHOD 1 (an INT, an ARRAY; one LOCAL more of each KIND) is called twice: with 3 and null, 9 and a new one. */
    private static void arguments() {
        AnalysisHouse h = new AnalysisHouse();
        h.method(0, 0, 0, 0);
        Due.code(h, 0, 0, 77, 0, 3, 3, 0, 32, 1, 4, 0, 0, 9, 0, 2, 28, 0, 32, 1, 33, 0);
        h.method(2, 4, 10, 1);
        Due.code(h, 1, 1, 0, 33, 0);
        Due.due("build", h.build(), 2);
        h.analyze(1);
        Due.span("its INT", h, Due.at(1, 0, 0), 3, 9, 6);
        Due.set("its ARRAY", h, Due.at(1, 0, 1), 2, true);
        Due.span("its other INT", h, Due.at(1, 0, 2), 0, 0, 0);
        Due.set("its other ARRAY", h, Due.at(1, 0, 3), 0, true);
        Due.due("its stack", h.state(1, 0, 10, 0), Due.NO);
        Due.span("behind: RESULT", h, Due.at(0, 4, 11), 3, 9, 6);
        Due.span("behind: what lay below", h, Due.at(0, 4, 10), 77, 77, 0);
        Due.due("behind: MARK", h.state(0, 4, 11, 5), Due.NONE);
        Due.due("check", h.check(), 1);
        // METHOD 1 lies behind: its RESULT comes in the first PASS, METHOD 0 uses it in the second
        Due.due("PASSES", h.analyze(1), 4);
    }

    private static void callsWithoutReturn() {
        AnalysisHouse h = new AnalysisHouse();
        h.method(0, 0, 0, 0);
        Due.code(h, 0, 32, 1, 33, 0);
        h.method(0, 0, 0, 0);
        Due.code(h, 1, 0, 1, 0, 0, 10, 0, 33, 0);
        h.build();
        h.analyze(1);
        Due.due("the METHOD is come to", h.reached(1, 2), true);
        Due.due("it can not return", h.result(1, 5), 0);
        Due.due("behind the 32", h.reached(0, 1), false);
    }

    /** sum(n) = n < 1 ? 0 : n + sum(n - 1) */
    private static void recursion() {
        AnalysisHouse h = Due.built(1, 1, 0, 1,
            1, 0, 0, 1, 22, 10, 1, 0, 1, 0, 0, 1, 8, 0, 32, 0, 7, 0, 33, 0, 0, 0, 33, 0);
        h.analyze(1);
        Due.due("may return", h.result(0, 5), 1);
        Due.due("all can come back", h.result(0, 0), MIN);
        Due.span("n - 1 at the call", h, Due.at(0, 7, 11), 0, MAX - 1, 1);
        Due.due("check", h.check(), 1);
    }

    private static void roots() {
        AnalysisHouse h = new AnalysisHouse();
        for (int m = 0; m < 3; m++) {
            h.method(1, 1, 0, 0);
            Due.code(h, m, 33, 0);
        }
        h.wipe(0);
        Due.code(h, 0, 0, 5, 32, 2, 33, 0);
        h.build();
        h.analyze(3);
        Due.span("a ROOT", h, Due.at(1, 0, 0), MIN, MAX, 1);
        Due.span("called only", h, Due.at(2, 0, 0), 5, 5, 0);
        h.analyze(4);
        Due.due("not a ROOT", h.reached(0, 0), false);
        Due.span("a ROOT now", h, Due.at(2, 0, 0), MIN, MAX, 1);
        h.analyze(5);
        Due.span("both", h, Due.at(2, 0, 0), MIN, MAX, 1);
        Due.due("bits beyond", h.analyze(8), Due.NONE);
        Due.due("bits beyond, the highest", h.analyze(MIN), Due.NONE);
        Due.due("refused: as it was", h.reached(1, 0), false);
    }
}
