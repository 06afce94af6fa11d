/** Promises 1 to 4: a new object, method, code, wipe; and what they take away. */
public final class MethodsTest {
    public static void main(String[] args) {
        newObject();
        methods();
        kindsOfMethods();
        codes();
        wipes();
        taking();
        Due.end("MethodsTest");
    }

    private static void newObject() {
        AnalysisHouse h = new AnalysisHouse();
        Due.due("NONE", AnalysisHouse.NONE, -1);
        Due.due("NO", AnalysisHouse.NO, -4611686018427387904L);
        Due.due("new: code", h.code(0, 0, 0), Due.NONE);
        Due.due("new: wipe", h.wipe(0), Due.NONE);
        Due.due("new: faultAt", h.faultAt(0), Due.NONE);
        Due.due("new: analyze without BUILD", h.analyze(0), Due.NONE);
        Due.due("new: reached", h.reached(0, 0), false);
        Due.due("new: state", h.state(0, 0, 0, 0), Due.NO);
        Due.due("new: site", h.site(0, 6), Due.NO);
        Due.due("new: field", h.field(0, 0), Due.NO);
        Due.due("new: result", h.result(0, 5), Due.NO);
        Due.due("new: verdict", h.verdict(0, 0, 1), Due.NONE);
        Due.due("new: verdicts", h.verdicts(1), Due.NONE);
        Due.due("new: plant", h.plant(0, 0, 0, 0, 0), false);
        Due.due("new: forgetState", h.forgetState(0, 0), false);
        Due.due("new: check", h.check(), Due.NONE);
        Due.due("new: fill", h.fill(0, 0, 0), Due.NONE);
        Due.due("new: run", h.run(0, 1), Due.NONE);
        Due.due("new: ran", h.ran(0), 0);
        Due.due("new: ran another", h.ran(8), Due.NO);
        Due.due("new: outside", h.outside(), Due.NONE);
        Due.due("new: forget", h.forget(), 0);
        Due.due("new: build of no METHODS", h.build(), 1);
        Due.due("new: analyze of no METHODS", h.analyze(0), 1);
        Due.due("new: check of no METHODS", h.check(), 1);
        Due.due("new: verdicts of no METHODS", h.verdicts(0), 0);
        Due.due("new: analyze beyond", h.analyze(1), Due.NONE);
    }

    private static void methods() {
        AnalysisHouse h = new AnalysisHouse();
        Due.due("arguments below", h.method(-1, 2, 0, 0), Due.NONE);
        Due.due("arguments above", h.method(4, 5, 0, 0), Due.NONE);
        Due.due("locals below arguments", h.method(3, 2, 0, 0), Due.NONE);
        Due.due("locals above", h.method(0, 7, 0, 0), Due.NONE);
        Due.due("locals far below", h.method(0, Due.MIN, 0, 0), Due.NONE);
        Due.due("kinds below", h.method(1, 1, -1, 0), Due.NONE);
        Due.due("kinds above", h.method(1, 1, 2, 0), Due.NONE);
        Due.due("kinds without locals", h.method(0, 0, 1, 0), Due.NONE);
        Due.due("kinds above of 6", h.method(0, 6, 64, 0), Due.NONE);
        Due.due("result below", h.method(0, 0, 0, -1), Due.NONE);
        Due.due("result above", h.method(0, 0, 0, 3), Due.NONE);
        Due.due("least", h.method(0, 0, 0, 0), 0);
        Due.due("greatest", h.method(3, 6, 63, 2), 1);
        Due.due("locals as arguments", h.method(3, 3, 7, 1), 2);
        for (int m = 3; m < 8; m++) {
            Due.due("method " + m, h.method(1, 2, 1, 0), m);
        }
        Due.due("a 9th", h.method(0, 0, 0, 0), Due.NONE);
        Due.due("code of the 8th", h.code(7, 33, 0), 0);
        Due.due("code of a 9th", h.code(8, 33, 0), Due.NONE);
    }

    /** Bit i of kinds is LOCAL i; the ARGUMENTS are the first LOCALS. */
    private static void kindsOfMethods() {
        AnalysisHouse h = Due.analysed(2, 4, 10, 1, 0, 5, 33, 0);
        Due.span("argument INT", h, Due.at(0, 0, 0), Due.MIN, Due.MAX, 1);
        Due.set("argument ARRAY", h, Due.at(0, 0, 1), 1, true);
        Due.span("other INT", h, Due.at(0, 0, 2), 0, 0, 0);
        Due.set("other ARRAY", h, Due.at(0, 0, 3), 0, true);
    }

    private static void codes() {
        AnalysisHouse h = new AnalysisHouse();
        h.method(0, 0, 0, 0);
        Due.due("op below", h.code(0, -1, 0), Due.NONE);
        Due.due("op above", h.code(0, 36, 0), Due.NONE);
        Due.due("no METHOD", h.code(1, 0, 0), Due.NONE);
        Due.due("METHOD below", h.code(-1, 0, 0), Due.NONE);
        for (int op = 0; op <= 35; op++) {
            Due.due("op " + op, h.code(0, op, Due.MAX), op);
        }
        for (int p = 36; p < 60; p++) {
            Due.due("place " + p, h.code(0, 0, Due.MIN), p);
        }
        Due.due("a 61st", h.code(0, 0, 0), Due.NONE);
        h.method(0, 0, 0, 0);
        Due.due("another METHOD's first", h.code(1, 33, 0), 0);
    }

    private static void wipes() {
        AnalysisHouse h = new AnalysisHouse();
        h.method(0, 0, 0, 0);
        h.method(0, 0, 0, 0);
        Due.code(h, 0, 0, 1, 4, 0, 33, 0);
        Due.code(h, 1, 33, 0);
        Due.due("wipe", h.wipe(0), 3);
        Due.due("wipe again", h.wipe(0), 0);
        Due.due("wipe none such", h.wipe(2), Due.NONE);
        Due.due("wipe below", h.wipe(-1), Due.NONE);
        Due.due("code from 0 again", h.code(0, 33, 0), 0);
        Due.due("the other stays", h.wipe(1), 1);
        for (int p = 0; p < 60; p++) {
            h.code(1, 0, 0);
        }
        Due.due("wipe 60", h.wipe(1), 60);
        Due.due("room again", h.code(1, 33, 0), 0);
    }

    /** What is not refused takes BUILD and CERTIFICATE away; what is refused changes nothing. */
    private static void taking() {
        AnalysisHouse h = Due.analysed(1, 1, 0, 1, 1, 0, 33, 0);
        h.method(4, 0, 0, 0);
        h.code(0, 36, 0);
        h.wipe(1);
        Due.due("refused: check", h.check(), 1);
        Due.due("refused: analyze beyond keeps", h.analyze(2), Due.NONE);
        Due.due("refused: analyze below", h.analyze(-1), Due.NONE);
        Due.due("refused: reached", h.reached(0, 1), true);
        h.code(0, 33, 0);
        isAway("code", h);
        h.build();
        h.analyze(1);
        Due.due("there again", h.check(), 1);
        h.method(0, 0, 0, 0);
        isAway("method", h);
        h = Due.analysed(0, 0, 0, 0, 33, 0);
        h.wipe(0);
        isAway("wipe", h);
        h = Due.analysed(0, 0, 0, 0, 33, 0);
        Due.due("build again", h.build(), 1);
        Due.due("build takes the CERTIFICATE", h.check(), Due.NONE);
        Due.due("build leaves its own BUILD", h.run(0, 5), 1);
        h = Due.analysed(0, 0, 0, 0, 33, 0);
        h.method(0, 0, 0, 0);
        Due.due("build with a FAULT", h.build(), -4);
        isAway("build with a FAULT", h);
    }

    private static void isAway(String by, AnalysisHouse h) {
        Due.due(by + ": analyze", h.analyze(0), Due.NONE);
        Due.due(by + ": check", h.check(), Due.NONE);
        Due.due(by + ": reached", h.reached(0, 0), false);
        Due.due(by + ": site", h.site(0, 6), Due.NO);
        Due.due(by + ": field", h.field(0, 0), Due.NO);
        Due.due(by + ": result", h.result(0, 5), Due.NO);
        Due.due(by + ": run", h.run(0, 5), Due.NONE);
        Due.due(by + ": verdicts", h.verdicts(0), Due.NONE);
        Due.due(by + ": verdict", h.verdict(0, 0, 1), Due.NONE);
    }
}
