/** Promises 15 to 17: certificates that are altered, and the checker. */
public final class CheckTest {
    private static final int MIN = Integer.MIN_VALUE;
    private static final int MAX = Integer.MAX_VALUE;

    public static void main(String[] args) {
        plants();
        plantsRefused();
        forgets();
        holds();
        rootsFail();
        stepsFail();
        marksFail();
        sitesAndResultsFail();
        Due.end("CheckTest");
    }

    /** i = 0; while (i < 100) i = i + 1: the head is PLACE 2, the body PLACES 5 to 9, the end PLACE 10. */
    private static AnalysisHouse loop() {
        return Due.analysed(0, 2, 2, 0,
            0, 0, 2, 0, 1, 0, 0, 100, 23, 10, 1, 0, 0, 1, 7, 0, 2, 0, 19, 2, 33, 0);
    }

    private static void plants() {
        AnalysisHouse h = loop();
        Due.due("plant a LOCAL", h.plant(0, 5, 0, 3, 9), true);
        Due.span("planted", h, Due.at(0, 5, 0), 3, 9, 1);
        Due.due("plant one", h.plant(0, 5, 0, -7, -7), true);
        Due.span("planted one", h, Due.at(0, 5, 0), -7, -7, 0);
        Due.due("plant the stack", h.plant(0, 4, 11, MIN, MAX), true);
        Due.span("planted on the stack", h, Due.at(0, 4, 11), MIN, MAX, 1);
        Due.due("its MARK stays", h.state(0, 4, 10, 5), 0);
        Due.due("plant below it", h.plant(0, 4, 10, 0, 5), true);
        Due.due("its MARK stays planted", h.state(0, 4, 10, 5), 0);
        Due.span("the LOCAL is not planted", h, Due.at(0, 4, 0), 0, 127, 1);
        h.analyze(1);
        Due.span("analyze makes it anew", h, Due.at(0, 5, 0), 0, 99, 1);
        h.plant(0, 0, 0, 5, 5);
        h.build();
        h.analyze(1);
        Due.due("build and analyze make it anew", h.check(), 1);
    }

    private static void plantsRefused() {
        AnalysisHouse h = loop();
        Due.due("a SET", h.plant(0, 5, 1, 0, 1), false);
        Due.due("low above high", h.plant(0, 5, 0, 1, 0), false);
        Due.due("no such LOCAL", h.plant(0, 5, 2, 0, 1), false);
        Due.due("slot -1", h.plant(0, 5, -1, 0, 1), false);
        Due.due("slot 9", h.plant(0, 5, 9, 0, 1), false);
        Due.due("no such place of the stack", h.plant(0, 5, 10, 0, 1), false);
        Due.due("slot far above", h.plant(0, 5, MAX, 0, 1), false);
        Due.due("no such PLACE", h.plant(0, 11, 0, 0, 1), false);
        Due.due("PLACE below", h.plant(0, -1, 0, 0, 1), false);
        Due.due("no such METHOD", h.plant(1, 0, 0, 0, 1), false);
        Due.due("METHOD below", h.plant(-1, 0, 0, 0, 1), false);
        Due.due("refused ones change nothing", h.check(), 1);
        h = Due.built(0, 1, 0, 0, 33, 0);
        Due.due("no CERTIFICATE", h.plant(0, 0, 0, 0, 1), false);
        h.analyze(0);
        Due.due("no STATE", h.plant(0, 0, 0, 0, 1), false);
    }

    private static void forgets() {
        AnalysisHouse h = loop();
        Due.due("forget", h.forgetState(0, 10), true);
        Due.due("gone", h.reached(0, 10), false);
        Due.due("no STATE to plant in", h.plant(0, 10, 0, 0, 1), false);
        Due.due("no STATE to ask", h.state(0, 10, 0, 0), Due.NO);
        Due.due("VERDICT", h.verdict(0, 10, 1), 0);
        Due.due("forget again", h.forgetState(0, 10), false);
        Due.due("no such PLACE", h.forgetState(0, 11), false);
        Due.due("PLACE below", h.forgetState(0, -1), false);
        Due.due("no such METHOD", h.forgetState(1, 0), false);
        Due.due("others stay", h.reached(0, 9), true);
        Due.due("what goes there does not hold", h.check(), -2004);
        h = Due.built(0, 0, 0, 0, 33, 0);
        Due.due("no CERTIFICATE", h.forgetState(0, 0), false);
    }

    private static void holds() {
        AnalysisHouse h = loop();
        Due.due("as it is", h.check(), 1);
        Due.due("asked again", h.check(), 1);
        h.plant(0, 10, 0, MIN, MAX);
        Due.due("more at the end", h.check(), 1);
        h.plant(0, 2, 0, 0, 101);
        h.plant(0, 3, 0, 0, 101);
        h.plant(0, 3, 10, 0, 101);
        Due.due("more where it is narrowed behind", h.check(), 1);
        h = Due.built(0, 0, 0, 0, 33, 0);
        Due.due("no CERTIFICATE", h.check(), Due.NONE);
        h.analyze(0);
        Due.due("nothing holds", h.check(), 1);
    }

    private static void rootsFail() {
        AnalysisHouse h = new AnalysisHouse();
        for (int m = 0; m < 3; m++) {
            h.method(1, 2, 0, 0);
            h.code(m, 33, 0);
        }
        h.build();
        h.analyze(6);
        h.plant(2, 0, 0, MIN, MAX - 1);
        Due.due("ROOT 2: its ARGUMENTS", h.check(), -1002);
        h.plant(2, 0, 0, MIN, MAX);
        Due.due("ROOT 2 again", h.check(), 1);
        h.plant(2, 0, 1, 1, 1);
        Due.due("ROOT 2: its other LOCAL", h.check(), -1002);
        h.forgetState(1, 0);
        Due.due("ROOT 1 forgotten is the first", h.check(), -1001);
        h.analyze(6);
        h.plant(0, 0, 0, 1, 1);
        Due.due("METHOD 0 is no ROOT", h.check(), 1);
    }

    private static void stepsFail() {
        AnalysisHouse h = loop();
        h.plant(0, 2, 0, 0, 99);
        Due.due("the loop's way back", h.check(), -2009);
        h.plant(0, 2, 0, 1, 100);
        Due.due("the way into the loop", h.check(), -2001);
        h = loop();
        h.plant(0, 4, 0, 0, 126);
        Due.due("less than comes, though it can not be", h.check(), 1);
        h.plant(0, 4, 0, 0, 99);
        Due.due("less than comes", h.check(), -2003);
        h = loop();
        h.forgetState(0, 2);
        Due.due("forgotten: what goes there", h.check(), -2001);
        h = loop();
        h.plant(0, 8, 10, 1, 99);
        Due.due("less on the stack", h.check(), -2007);
        h = loop();
        h.plant(0, 5, 0, 0, 98);
        Due.due("less on a way of a comparison", h.check(), -2004);
        h = new AnalysisHouse();
        h.method(0, 0, 0, 0);
        Due.code(h, 0, 33, 0);
        h.method(0, 0, 0, 0);
        Due.code(h, 1, 0, 1, 0, 2, 0, 3, 4, 0, 4, 0, 4, 0, 0, 9, 0, 8, 33, 0);
        h.build();
        h.analyze(2);
        h.plant(1, 8, 10, 0, 0);
        Due.due("100 times the METHOD and the PLACE", h.check(), -2107);
        // a SPAN with a STRIDE is in one without, not the other way
        h = Due.analysed(1, 2, 0, 0, 1, 0, 0, 9, 12, 0, 0, 2, 9, 0, 2, 1, 33, 0);
        h.plant(0, 6, 1, 0, 18);
        Due.due("STRIDE 2 in STRIDE 1", h.check(), 1);
        h.plant(0, 5, 10, 0, 18);
        Due.due("STRIDE 1 in STRIDE 1", h.check(), 1);
        h = Due.analysed(1, 2, 0, 0, 1, 0, 0, 9, 12, 0, 0, 2, 9, 0, 2, 1, 33, 0);
        h.plant(0, 5, 10, 0, 18);
        Due.due("STRIDE 1 not in STRIDE 2", h.check(), -2005);
    }

    /** 5 = 6 never goes to where LOCAL 1 lies on the stack with its MARK; once it may, LOCAL 0 comes there with its. */
    private static void marksFail() {
        AnalysisHouse h = Due.analysed(2, 2, 0, 0, 1, 0, 0, 5, 0, 6, 20, 6, 4, 0, 1, 1, 33, 0);
        Due.due("the MARK", h.state(0, 6, 10, 5), 1);
        Due.due("holds", h.check(), 1);
        Due.due("plant", h.plant(0, 3, 11, 5, 6), true);
        Due.due("another MARK", h.check(), -2003);
        h = Due.analysed(2, 2, 0, 0, 1, 0, 0, 5, 0, 6, 20, 8, 4, 0, 1, 1, 0, 0, 7, 0, 33, 0);
        Due.due("no MARK", h.state(0, 8, 10, 5), Due.NONE);
        h.plant(0, 3, 11, 5, 6);
        Due.due("any MARK holds where there is none", h.check(), 1);
    }

    private static void sitesAndResultsFail() {
        // METHOD 1 (an INT) makes an ARRAY, puts the INT there, keeps it in FIELD 0 and gives it back
        AnalysisHouse h = new AnalysisHouse();
        h.method(0, 0, 0, 0);
        Due.code(h, 0, 0, 5, 32, 1, 4, 0, 33, 0);
        h.method(1, 2, 2, 1);
        Due.code(h, 1, 0, 3, 28, 0, 2, 1, 1, 1, 0, 0, 1, 0, 31, 0, 1, 0, 35, 0, 1, 0, 33, 0);
        h.build();
        h.analyze(1);
        Due.due("holds", h.check(), 1);
        h.plant(1, 1, 10, 3, 4);
        Due.due("LENGTH", h.check(), -2101);
        h.analyze(1);
        h.plant(1, 6, 12, 5, 6);
        Due.due("ELEMENT", h.check(), -2106);
        h.analyze(1);
        h.plant(1, 8, 10, 5, 6);
        Due.due("FIELD", h.check(), -2108);
        h.analyze(1);
        h.plant(1, 10, 10, 4, 5);
        Due.due("RESULT", h.check(), -2110);
        h.analyze(1);
        h.plant(0, 1, 10, 5, 6);
        Due.due("ARGUMENTS", h.check(), -2001);
        h.analyze(1);
        h.plant(0, 2, 10, 4, 4);
        Due.due("behind the call", h.check(), -2001);
        h.analyze(1);
        h.forgetState(1, 0);
        Due.due("the called METHOD is forgotten", h.check(), -2001);
    }
}
