/** Promise 23: runs held against the certificate as it was then. */
public final class OutsideTest {
    private static final int MIN = Integer.MIN_VALUE;
    private static final int MAX = Integer.MAX_VALUE;

    public static void main(String[] args) {
        keepsTo();
        forgotten();
        planted();
        stacks();
        otherRoots();
        sets();
        heapAndFields();
        asItWasThen();
        Due.end("OutsideTest");
    }

    /** i = 0; while (i < 100) i = i + 1 */
    private static AnalysisHouse loop() {
        return Due.analysed(0, 1, 0, 0,
            0, 0, 2, 0, 1, 0, 0, 100, 23, 10, 1, 0, 0, 1, 7, 0, 2, 0, 19, 2, 33, 0);
    }

    private static void keepsTo() {
        AnalysisHouse h = loop();
        Due.due("no run", h.outside(), Due.NONE);
        Due.due("run", h.run(0, 20000), 1);
        Due.due("keeps to it", h.outside(), Due.NONE);
        h = Due.built(0, 0, 0, 0, 33, 0);
        h.run(0, 9);
        Due.due("no CERTIFICATE", h.outside(), Due.NONE);
        h.analyze(0);
        Due.due("the run was before it", h.outside(), Due.NONE);
        h.run(0, 0);
        Due.due("none began", h.outside(), Due.NONE);
        h.run(0, 1);
        Due.due("no ROOT: the first", h.outside(), 0);
    }

    private static void forgotten() {
        AnalysisHouse h = loop();
        h.forgetState(0, 10);
        h.run(0, 20000);
        Due.due("the end is forgotten", h.outside(), 2 + 100 * 8 + 3);
        h.forgetState(0, 5);
        h.run(0, 20000);
        Due.due("the first of both", h.outside(), 5);
        h.run(0, 5);
        Due.due("it did not begin there", h.outside(), Due.NONE);
        h.run(0, 6);
        Due.due("it began there", h.outside(), 5);
        h.analyze(1);
        Due.due("the run was before", h.outside(), 5);
    }

    private static void planted() {
        AnalysisHouse h = loop();
        h.plant(0, 2, 0, 0, 99);
        h.run(0, 20000);
        Due.due("100 at the head", h.outside(), 2 + 100 * 8);
        h.plant(0, 2, 0, 1, 100);
        h.run(0, 20000);
        Due.due("0 at the head", h.outside(), 2);
        h.plant(0, 2, 0, MIN, MAX);
        h.run(0, 20000);
        Due.due("all at the head", h.outside(), Due.NONE);
        // STRIDES: i is even, planted ones are all of a row
        h = Due.analysed(1, 2, 0, 0, 1, 0, 0, 2, 9, 0, 2, 1, 33, 0);
        h.argument(0, 21);
        h.run(0, 9);
        Due.due("42 is even", h.outside(), Due.NONE);
    }

    private static void stacks() {
        AnalysisHouse h = Due.analysed(1, 1, 0, 1, 1, 0, 0, 5, 7, 0, 33, 0);
        h.argument(0, 10);
        h.plant(0, 2, 10, 0, 9);
        h.run(0, 9);
        Due.due("the lower of the stack", h.outside(), 2);
        h.plant(0, 2, 10, 0, 10);
        h.run(0, 9);
        Due.due("it is told", h.outside(), Due.NONE);
        h.plant(0, 2, 11, 6, 6);
        h.run(0, 9);
        Due.due("the upper of the stack", h.outside(), 2);
    }

    /** METHOD 0 calls METHOD 1 with 5; METHOD 1 as a run's own is given others. */
    private static void otherRoots() {
        AnalysisHouse h = new AnalysisHouse();
        h.method(0, 0, 0, 1);
        Due.code(h, 0, 0, 5, 32, 1, 33, 0);
        h.method(1, 1, 0, 1);
        Due.code(h, 1, 1, 0, 33, 0);
        h.build();
        h.analyze(1);
        h.run(0, 9);
        Due.due("called with 5", h.outside(), Due.NONE);
        h.argument(0, 5);
        h.run(1, 9);
        Due.due("given 5", h.outside(), Due.NONE);
        h.forget();
        h.argument(0, 6);
        h.run(1, 9);
        Due.due("given 6", h.outside(), 0);
        h.forget();
        h.forgetState(0, 2);
        h.run(0, 9);
        Due.due("behind the call", h.outside(), 4);
        // only what is of the METHOD that runs is looked at: PLACE 1 of METHOD 0 has passed by then
        h.analyze(1);
        h.plant(1, 1, 10, 7, 7);
        h.run(0, 9);
        Due.due("within the call", h.outside(), 3);
    }

    private static void sets() {
        AnalysisHouse h = new AnalysisHouse();
        h.method(0, 0, 0, 0);
        Due.code(h, 0, 0, 3, 28, 0, 32, 1, 33, 0);
        h.method(1, 1, 1, 0);
        Due.code(h, 1, 33, 0);
        h.method(0, 0, 0, 0);
        Due.code(h, 2, 3, 0, 32, 1, 33, 0);
        h.build();
        h.analyze(1);
        h.run(0, 9);
        Due.due("of its SITE", h.outside(), Due.NONE);
        h.argument(1, 3);
        h.run(1, 9);
        Due.due("of OUTSIDE", h.outside(), 0);
        h.forget();
        h.argument(2, 3);
        h.run(1, 9);
        Due.due("null", h.outside(), 0);
        h.analyze(4);
        h.run(1, 9);
        Due.due("null is told", h.outside(), Due.NONE);
        h.forget();
        h.argument(1, 3);
        h.run(1, 9);
        Due.due("of OUTSIDE, null is told", h.outside(), 0);
        h.analyze(2);
        h.run(1, 9);
        Due.due("a ROOT's ARRAY", h.outside(), Due.NONE);
    }

    /**
     * METHOD 1 keeps its argument: as a LENGTH, an element, a FIELD. Called with 5 it is told; its STATES are then
     * planted wide, so that only LENGTHS, elements and FIELDS can tell that a run goes outside.
     */
    private static AnalysisHouse keeper(int... lines) {
        AnalysisHouse h = new AnalysisHouse();
        h.method(0, 0, 0, 0);
        Due.code(h, 0, 0, 5, 32, 1, 33, 0);
        h.method(1, 2, 2, 0);
        Due.code(h, 1, lines);
        h.build();
        h.analyze(1);
        for (int p = 0; p < lines.length / 2; p++) {
            for (int slot = 0; slot < 15; slot++) {
                h.plant(1, p, slot, MIN, MAX);
            }
        }
        return h;
    }

    private static void heapAndFields() {
        AnalysisHouse length = keeper(1, 0, 28, 0, 2, 1, 33, 0);
        keeps("LENGTH", length, 5, Due.NONE);
        keeps("another LENGTH", length, 6, 2);
        AnalysisHouse element = keeper(0, 3, 28, 0, 0, 1, 1, 0, 31, 0, 33, 0);
        keeps("element", element, 5, Due.NONE);
        keeps("element 0", element, 0, Due.NONE);
        keeps("another element", element, 6, 5);
        AnalysisHouse field = keeper(1, 0, 35, 2, 0, 0, 35, 2, 33, 0);
        keeps("FIELD", field, 5, Due.NONE);
        keeps("another FIELD", field, 6, 2);
        field.forget();
        field.argument(0, 6);
        field.run(1, 2);
        Due.due("no INSTRUCTION began behind it", field.outside(), Due.NONE);
        // an ARRAY of none has no element that could be another one; into one of OUTSIDE all may be put
        AnalysisHouse outer = Due.analysed(2, 2, 1, 0, 1, 0, 0, 0, 1, 1, 31, 0, 33, 0);
        outer.argument(1, 2);
        outer.argument(0, MIN);
        outer.run(0, 9);
        Due.due("an element of OUTSIDE", outer.outside(), Due.NONE);
    }

    private static void keeps(String what, AnalysisHouse h, int v, int want) {
        h.forget();
        h.argument(0, v);
        h.run(1, 100);
        Due.due(what, h.outside(), want);
    }

    private static void asItWasThen() {
        AnalysisHouse h = loop();
        h.forgetState(0, 2);
        h.run(0, 20000);
        Due.due("then", h.outside(), 2);
        h.analyze(1);
        Due.due("still", h.outside(), 2);
        h.code(0, 33, 0);
        Due.due("without a CERTIFICATE still", h.outside(), 2);
        Due.due("a refused run", h.run(0, 5), Due.NONE);
        Due.due("changes nothing", h.outside(), 2);
        h.build();
        h.run(0, 20000);
        Due.due("without a CERTIFICATE then", h.outside(), Due.NONE);
    }
}
