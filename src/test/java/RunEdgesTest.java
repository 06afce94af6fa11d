/** Promises 18 to 23, sentence by sentence: arguments, runs, what is told of them, and where they go outside. */
public final class RunEdgesTest {
    private static final int MIN = Integer.MIN_VALUE;
    private static final int MAX = Integer.MAX_VALUE;

    public static void main(String[] args) {
        argumentsCome();
        argumentsRefused();
        fills();
        fillsRefused();
        fillsWhenRunsBegin();
        forgets();
        runsEnd();
        oneMoreWasDue();
        runsRefused();
        othersAsArguments();
        ranBeforeAny();
        ranAnother();
        ranResult();
        ranWrong();
        ranLatest();
        ranDeepest();
        ranField();
        ranArrays();
        outsideOfPlaces();
        outsideOfLocals();
        outsideOfTheStack();
        outsideOfLengths();
        outsideOfElements();
        outsideOfFields();
        outsideNone();
        outsideThen();
        argumentsAreOfOutside();
        Due.end("RunEdgesTest");
    }

    private static void argumentsCome() {
        Due.of("An argument comes behind the others (3 at most): an INT (kind 0), an ARRAY of v (0 .. 200) 0s (1), null "
            + "(2, any v): how many.");
        for (int v : new int[] {MIN, -1, 0, 201, MAX}) {
            AnalysisHouse h = new AnalysisHouse();
            Due.due("an INT", h.argument(0, v), 1);
            Due.due("null", h.argument(2, v), 2);
        }
        for (int v : new int[] {0, 1, 200}) {
            AnalysisHouse h = Due.built(1, 1, 1, 2, 1, 0, 33, 0);
            Due.due("an ARRAY", h.argument(1, v), 1);
            h.run(0, 9);
            Due.due("its LENGTH", h.ran(0), v);
        }
        // behind the others: 1, 2, 3 are read as 123
        AnalysisHouse h = Due.built(3, 3, 0, 1, 1, 0, 0, 10, 9, 0, 1, 1, 7, 0, 0, 10, 9, 0, 1, 2, 7, 0, 33, 0);
        for (int v = 1; v <= 3; v++) {
            Due.due("how many", h.argument(0, v), v);
        }
        h.run(0, 99);
        Due.due("their order", h.ran(0), 123);
        // 0s: the first and the last, also where others were before
        h = Due.built(1, 1, 1, 1, 1, 0, 0, 0, 30, 0, 1, 0, 0, 199, 30, 0, 13, 0, 33, 0);
        h.argument(1, 200);
        h.fill(0, 0, -1);
        h.fill(0, 199, -1);
        h.run(0, 99);
        Due.due("filled", h.ran(0), -1);
        h.forget();
        h.argument(1, 200);
        h.run(0, 99);
        Due.due("0s", h.ran(0), 0);
        for (int k = 0; k < 3; k++) {
            h = Due.built(3, 3, 7, 1, 1, k, 0, 0, 30, 0, 1, k, 0, 199, 30, 0, 13, 0, 33, 0);
            for (int again = 0; again < 2; again++) {
                for (int other = 0; other < 3; other++) {
                    h.argument(1, 200);
                }
                h.run(0, 99);
                Due.due("0s of argument " + k, h.ran(0), 0);
                h.fill(k, 0, 5);
                h.fill(k, 199, 6);
                h.run(0, 99);
                Due.due("filled, argument " + k, h.ran(0), 7);
                h.forget();
            }
        }
    }

    private static void argumentsRefused() {
        Due.of("NONE: none such, 3 are there.");
        AnalysisHouse h = new AnalysisHouse();
        for (int kind : new int[] {-1, 3, MIN, MAX}) {
            Due.due("kind " + kind, h.argument(kind, 0), Due.NONE);
        }
        for (int v : new int[] {-1, 201, MIN, MAX}) {
            Due.due("an ARRAY of " + v, h.argument(1, v), Due.NONE);
        }
        Due.due("none came", h.forget(), 0);
        for (int k = 1; k <= 3; k++) {
            Due.due("the " + k + "th", h.argument(1, k), k);
        }
        for (int kind = 0; kind <= 2; kind++) {
            Due.due("a 4th of kind " + kind, h.argument(kind, 0), Due.NONE);
        }
        Due.due("the 3rd stays as it was", h.fill(2, 2, 5), 1);
        Due.due("three", h.forget(), 3);
    }

    /** Gives back element 0 and, times 10, the last one of argument 1 of three ARRAYS of 2. */
    private static void fills() {
        Due.of("Element i of argument k, an ARRAY, is v when a run begins: 1.");
        AnalysisHouse h = Due.built(3, 3, 7, 1,
            1, 0, 0, 0, 30, 0, 0, 10, 9, 0, 1, 0, 0, 1, 30, 0, 7, 0, 0, 10, 9, 0,
            1, 1, 0, 0, 30, 0, 7, 0, 0, 10, 9, 0, 1, 1, 0, 1, 30, 0, 7, 0, 0, 10, 9, 0,
            1, 2, 0, 0, 30, 0, 7, 0, 0, 10, 9, 0, 1, 2, 0, 1, 30, 0, 7, 0, 33, 0);
        for (int k = 0; k < 3; k++) {
            h.argument(1, 2);
        }
        for (int k = 2; k >= 0; k--) {
            for (int i = 1; i >= 0; i--) {
                Due.due("fill", h.fill(k, i, 2 * k + i + 1), 1);
            }
        }
        h.run(0, 99);
        Due.due("each element of each argument", h.ran(0), 123456);
        Due.due("filled again", h.fill(1, 0, 9), 1);
        h.run(0, 99);
        Due.due("the later one", h.ran(0), 129456);
        for (int v : new int[] {MIN, MAX}) {
            AnalysisHouse g = Due.built(1, 1, 1, 1, 1, 0, 0, 199, 30, 0, 33, 0);
            g.argument(1, 200);
            Due.due("the last of 200", g.fill(0, 199, v), 1);
            g.run(0, 9);
            Due.due("any v", g.ran(0), v);
        }
    }

    private static void fillsRefused() {
        Due.of("Element i of argument k, an ARRAY, is v when a run begins: 1. NONE: none such.");
        AnalysisHouse h = new AnalysisHouse();
        Due.due("no argument", h.fill(0, 0, 1), Due.NONE);
        h.argument(1, 3);
        h.argument(0, 3);
        for (int none : new int[] {-1, 2, 3, MIN, MAX}) {
            Due.due("argument " + none, h.fill(none, 0, 1), Due.NONE);
        }
        Due.due("an INT", h.fill(1, 0, 1), Due.NONE);
        h.argument(2, 3);
        Due.due("null", h.fill(2, 0, 1), Due.NONE);
        for (int none : new int[] {-1, 3, 4, 200, MIN, MAX}) {
            Due.due("element " + none, h.fill(0, none, 1), Due.NONE);
        }
        Due.due("element 2", h.fill(0, 2, 1), 1);
        h.forget();
        Due.due("forgotten", h.fill(0, 0, 1), Due.NONE);
        h.argument(1, 0);
        Due.due("an ARRAY of none", h.fill(0, 0, 1), Due.NONE);
        h.forget();
        h.argument(1, 200);
        Due.due("element 199", h.fill(0, 199, 1), 1);
        Due.due("element 200", h.fill(0, 200, 1), Due.NONE);
        h.argument(1, 1);
        Due.due("element 1 of one", h.fill(1, 1, 1), Due.NONE);
    }

    private static void fillsWhenRunsBegin() {
        Due.of("is v when a run begins: 1.");
        // the run puts 70 where 7 was filled, and gives back what it found there
        AnalysisHouse h = Due.built(1, 1, 1, 1, 1, 0, 0, 0, 30, 0, 1, 0, 0, 0, 0, 70, 31, 0, 33, 0);
        h.argument(1, 1);
        h.fill(0, 0, 7);
        for (int k = 0; k < 2; k++) {
            h.run(0, 99);
            Due.due("run " + k, h.ran(0), 7);
        }
        // element 1 is what it was where none was filled
        h = Due.built(1, 1, 1, 1, 1, 0, 0, 1, 30, 0, 1, 0, 0, 1, 0, 70, 31, 0, 33, 0);
        h.argument(1, 2);
        for (int k = 0; k < 2; k++) {
            h.run(0, 99);
            Due.due("not filled, run " + k, h.ran(0), 0);
        }
    }

    private static void forgets() {
        Due.of("No arguments: how many there were.");
        AnalysisHouse h = Due.built(0, 0, 0, 0, 33, 0);
        for (int count = 0; count <= 3; count++) {
            for (int k = 0; k < count; k++) {
                h.argument(k, 0);
            }
            Due.due("a run with " + count, h.run(0, 9), count == 0 ? 1 : Due.NONE);
            Due.due("how many", h.forget(), count);
            Due.due("none any more", h.forget(), 0);
            Due.due("a run without", h.run(0, 9), 1);
        }
        h.argument(0, 1);
        h.method(0, 0, 0, 0);
        h.wipe(1);
        h.build();
        Due.due("method(), wipe(), build() forget none", h.forget(), 1);
    }

    private static void runsEnd() {
        Due.of("A METHOD runs with the arguments, up to n (0 .. 20000) INSTRUCTIONS: 1 it returned, 2 a WRONG, 3 one "
            + "more was due.");
        AnalysisHouse h = Due.built(0, 0, 0, 0, 0, 1, 4, 0, 33, 0);
        Due.due("it returned by the last one", h.run(0, 3), 1);
        Due.due("it returned before", h.run(0, 4), 1);
        Due.due("the last one was due", h.run(0, 2), 3);
        h = Due.built(0, 0, 0, 0, 0, 1, 0, 0, 10, 0, 33, 0);
        Due.due("wrong by the last one", h.run(0, 3), 2);
        Due.due("the wrong one was due", h.run(0, 2), 3);
        h = Due.built(0, 0, 0, 0, 19, 0);
        Due.due("20000", h.run(0, 20000), 3);
        Due.due("20000 were begun", h.ran(2), 20000);
    }

    private static void oneMoreWasDue() {
        Due.of("3 one more was due.");
        AnalysisHouse h = Due.built(0, 0, 0, 0, 33, 0);
        Due.due("none of one", h.run(0, 0), 3);
        Due.due("none was begun", h.ran(2), 0);
        Due.due("one of one", h.run(0, 1), 1);
        // INSTRUCTIONS of METHODS that are called count, too
        h = new AnalysisHouse();
        h.method(0, 0, 0, 0);
        Due.code(h, 0, 32, 1, 32, 1, 33, 0);
        h.method(0, 0, 0, 0);
        Due.code(h, 1, 19, 1, 33, 0);
        h.build();
        Due.due("6 of 7", h.run(0, 6), 3);
        Due.due("METHOD of the latest", h.ran(3), 1);
        Due.due("7 of 7", h.run(0, 7), 1);
    }

    private static void runsRefused() {
        Due.of("NONE: no BUILD, no such METHOD, n, other arguments (how many, KINDS).");
        AnalysisHouse h = new AnalysisHouse();
        h.method(0, 0, 0, 1);
        Due.due("no BUILD, but a METHOD", h.run(0, 5), Due.NONE);
        h.build();
        Due.due("a FAULT", h.run(0, 5), Due.NONE);
        Due.code(h, 0, 0, 6, 33, 0);
        Due.due("no BUILD yet", h.run(0, 5), Due.NONE);
        h.build();
        for (int none : new int[] {-1, 1, 7, 8, MIN, MAX}) {
            Due.due("METHOD " + none, h.run(none, 5), Due.NONE);
        }
        for (int none : new int[] {-1, 20001, MIN, MAX}) {
            Due.due("n " + none, h.run(0, none), Due.NONE);
        }
        Due.due("none ran", h.ran(2), 0);
        Due.due("n 20000", h.run(0, 20000), 1);
        Due.due("n -1 changes nothing", h.run(0, -1), Due.NONE);
        Due.due("it is told as it was", h.ran(0), 6);
    }

    private static int with(int kinds, int... given) {
        AnalysisHouse h = Due.built(2, 2, kinds, 0, 33, 0);
        for (int kind : given) {
            h.argument(kind, 1);
        }
        return h.run(0, 5);
    }

    private static void othersAsArguments() {
        Due.of("other arguments (how many, KINDS).");
        Due.due("none of two", with(0), Due.NONE);
        Due.due("one of two", with(0, 0), Due.NONE);
        Due.due("two of two", with(0, 0, 0), 1);
        Due.due("three of two", with(0, 0, 0, 0), Due.NONE);
        for (int first = 0; first <= 2; first++) {
            for (int second = 0; second <= 2; second++) {
                for (int kinds = 0; kinds < 4; kinds++) {
                    boolean fits = first == 0 == ((kinds & 1) == 0) && second == 0 == ((kinds & 2) == 0);
                    Due.due(first + " " + second + " for " + kinds, with(kinds, first, second), fits ? 1 : Due.NONE);
                }
            }
        }
        // only ARGUMENTS are given: other LOCALS may be of any KIND
        AnalysisHouse h = Due.built(1, 3, 6, 0, 33, 0);
        h.argument(0, 1);
        Due.due("other LOCALS", h.run(0, 5), 1);
    }

    private static void ranBeforeAny() {
        Due.of("NO: another what; 0 before any.");
        AnalysisHouse h = Due.analysed(1, 1, 0, 0, 33, 0);
        for (int what = 0; what < 8; what++) {
            Due.due("before any", h.ran(what), 0);
        }
        h.run(0, 5);
        for (int what = 0; what < 8; what++) {
            Due.due("before any but a refused one", h.ran(what), 0);
        }
    }

    private static void ranAnother() {
        Due.of("NO: another what;");
        AnalysisHouse h = Due.built(0, 0, 0, 0, 33, 0);
        for (int k = 0; k < 2; k++) {
            for (int none : new int[] {-1, 8, 9, MIN, MAX}) {
                Due.due("what " + none, h.ran(none), Due.NO);
            }
            h.run(0, 5);
        }
        Due.due("what 7", h.ran(7), 0);
    }

    private static long result(int result, int n, int... lines) {
        AnalysisHouse h = Due.built(0, 0, 0, result, lines);
        h.run(0, n);
        return h.ran(0);
    }

    private static void ranResult() {
        Due.of("0 the RESULT (an INT; of an ARRAY its LENGTH, -1 null; 0 without),");
        Due.due("an INT", result(1, 9, 0, -7, 33, 0), -7);
        Due.due("the least", result(1, 9, 0, MIN, 33, 0), MIN);
        Due.due("the greatest", result(1, 9, 0, MAX, 33, 0), MAX);
        Due.due("an ARRAY of 3", result(2, 9, 0, 3, 28, 0, 33, 0), 3);
        Due.due("an ARRAY of none", result(2, 9, 0, 0, 28, 0, 33, 0), 0);
        Due.due("an ARRAY of 2000", result(2, 9, 0, 2000, 28, 0, 33, 0), 2000);
        Due.due("null", result(2, 9, 3, 0, 33, 0), -1);
        Due.due("without", result(0, 9, 0, 5, 33, 0), 0);
        Due.due("one more was due", result(1, 1, 0, 5, 33, 0), 0);
        Due.due("a WRONG", result(1, 9, 0, 5, 0, 0, 10, 0, 33, 0), 0);
        Due.due("a WRONG in place of an ARRAY", result(2, 9, 0, -1, 28, 0, 33, 0), 0);
        // a later run that does not return has none
        AnalysisHouse h = Due.built(0, 0, 0, 1, 0, 5, 33, 0);
        h.run(0, 9);
        h.run(0, 1);
        Due.due("of the latest run", h.ran(0), 0);
    }

    private static void ranWrong() {
        Due.of("1 the WRONG (0), 2 INSTRUCTIONS begun,");
        AnalysisHouse h = Due.built(1, 1, 0, 0, 0, 1, 1, 0, 10, 0, 33, 0);
        h.argument(0, 0);
        h.run(0, 9);
        Due.due("a WRONG", h.ran(1), 1);
        Due.due("begun, the wrong one too", h.ran(2), 3);
        h.forget();
        h.argument(0, 1);
        h.run(0, 9);
        Due.due("none", h.ran(1), 0);
        Due.due("begun, the 33 too", h.ran(2), 4);
        h.run(0, 2);
        Due.due("one more was due: none", h.ran(1), 0);
        Due.due("begun: as many as allowed", h.ran(2), 2);
    }

    private static void ranLatest() {
        Due.of("3, 4 METHOD and PLACE of the latest one (run()'s METHOD and 0, when none was begun),");
        AnalysisHouse h = new AnalysisHouse();
        h.method(0, 0, 0, 0);
        Due.code(h, 0, 33, 0);
        h.method(0, 0, 0, 0);
        Due.code(h, 1, 19, 2, 33, 0, 32, 0, 19, 1);
        h.build();
        int[][] want = {{1, 0}, {1, 0}, {1, 2}, {0, 0}, {1, 3}, {1, 1}};
        for (int n = 0; n <= 5; n++) {
            Due.due("run", h.run(1, n), n == 5 ? 1 : 3);
            Due.due("METHOD of " + n, h.ran(3), want[n][0]);
            Due.due("PLACE of " + n, h.ran(4), want[n][1]);
            Due.due("begun", h.ran(2), n);
        }
        h.run(1, 0);
        Due.due("none was begun: METHOD", h.ran(3), 1);
        Due.due("none was begun: PLACE", h.ran(4), 0);
    }

    /** METHOD k calls METHOD k and 1, as far as METHOD 3, and METHOD 0 calls METHOD 3 behind that. */
    private static void ranDeepest() {
        Due.of("5 the most METHODS within one another (1: run()'s alone),");
        AnalysisHouse h = new AnalysisHouse();
        for (int m = 0; m < 4; m++) {
            h.method(0, 0, 0, 0);
        }
        Due.code(h, 0, 32, 1, 32, 3, 33, 0);
        Due.code(h, 1, 32, 2, 33, 0);
        Due.code(h, 2, 32, 3, 33, 0);
        Due.code(h, 3, 33, 0);
        h.build();
        int[] most = {1, 2, 3, 4, 4, 4, 4, 4, 4};
        for (int n = 0; n <= 8; n++) {
            h.run(0, n);
            Due.due("by " + n, h.ran(5), most[n]);
        }
        h.run(3, 9);
        Due.due("run()'s alone", h.ran(5), 1);
        h.run(3, 0);
        Due.due("none was begun", h.ran(5), 1);
    }

    private static void ranField() {
        Due.of("6 FIELD 0 then,");
        AnalysisHouse h = Due.built(0, 0, 0, 0, 0, MIN, 35, 0, 0, 5, 35, 1, 0, 7, 35, 0, 33, 0);
        long[] want = {0, 0, MIN, MIN, MIN, MIN, 7, 7};
        for (int n = 0; n <= 7; n++) {
            h.run(0, n);
            Due.due("by " + n, h.ran(6), want[n]);
        }
    }

    private static void ranArrays() {
        Due.of("7 ARRAYS that there are (arguments, too).");
        AnalysisHouse h = Due.built(3, 3, 7, 0, 0, 1, 28, 0, 0, 0, 28, 0, 33, 0);
        h.argument(1, 5);
        h.argument(2, 5);
        h.argument(1, 0);
        long[] want = {2, 2, 3, 3, 4, 4};
        for (int n = 0; n <= 5; n++) {
            h.run(0, n);
            Due.due("by " + n, h.ran(7), want[n]);
        }
        h = Due.built(0, 0, 0, 0, 0, 1, 28, 0, 0, -1, 28, 0, 33, 0);
        h.run(0, 9);
        Due.due("what was wrong made none", h.ran(7), 1);
        h = Due.built(0, 0, 0, 0, 3, 0, 33, 0);
        h.run(0, 9);
        Due.due("null is none", h.ran(7), 0);
    }

    private static void outsideOfPlaces() {
        Due.of("the first INSTRUCTION (0 the first) that began at a PLACE without STATE in THE CERTIFICATE as it "
            + "was then,");
        AnalysisHouse h = Due.analysed(0, 0, 0, 0, 0, 1, 4, 0, 19, 3, 33, 0);
        for (int place = 3; place >= 0; place--) {
            h.forgetState(0, place);
            h.run(0, 9);
            Due.due("PLACE " + place, h.outside(), place);
            h.run(0, place);
            Due.due("it did not begin", h.outside(), Due.NONE);
            h.run(0, place + 1);
            Due.due("it began", h.outside(), place);
        }
        h.analyze(0);
        h.run(0, 9);
        Due.due("no ROOT", h.outside(), 0);
        // a WRONG one begins, too
        h = Due.analysed(0, 0, 0, 0, 0, 1, 0, 0, 10, 0, 33, 0);
        h.forgetState(0, 2);
        h.run(0, 9);
        Due.due("a WRONG one", h.outside(), 2);
    }

    private static int local(int low, int high, int v) {
        AnalysisHouse h = Due.analysed(1, 6, 0, 0, 1, 0, 2, 5, 33, 0);
        h.plant(0, 2, 5, low, high);
        h.argument(0, v);
        h.run(0, 9);
        return h.outside();
    }

    private static void outsideOfLocals() {
        Due.of("or with a LOCAL, or a place of the stack, not told by it,");
        Due.due("at its low", local(3, 9, 3), Due.NONE);
        Due.due("at its high", local(3, 9, 9), Due.NONE);
        Due.due("below", local(3, 9, 2), 2);
        Due.due("above", local(3, 9, 10), 2);
        Due.due("one alone", local(4, 4, 4), Due.NONE);
        Due.due("another one", local(4, 4, 5), 2);
        Due.due("the least", local(MIN, MAX, MIN), Due.NONE);
        Due.due("the greatest", local(MIN, MAX, MAX), Due.NONE);
        Due.due("all but the least", local(MIN + 1, MAX, MIN), 2);
        Due.due("all but the greatest", local(MIN, MAX - 1, MAX), 2);
        // by a STRIDE: METHOD 0 gives METHOD 1 the numbers 0, 6, 12
        AnalysisHouse h = new AnalysisHouse();
        h.method(1, 1, 0, 0);
        Due.code(h, 0, 1, 0, 0, 2, 12, 0, 0, 6, 9, 0, 32, 1, 33, 0);
        h.method(1, 1, 0, 0);
        Due.code(h, 1, 33, 0);
        h.build();
        h.analyze(1);
        int[][] given = {{0, 1}, {6, 1}, {12, 1}, {3, 0}, {5, 0}, {7, 0}, {-6, 0}, {18, 0}};
        for (int[] one : given) {
            h.forget();
            h.argument(0, one[0]);
            h.run(1, 9);
            Due.due(one[0] + " by 6", h.outside(), one[1] == 1 ? Due.NONE : 0);
        }
    }

    private static void outsideOfTheStack() {
        Due.of("or with a LOCAL, or a place of the stack, not told by it,");
        int[] eight = Lines.times(8, 0, 3);
        for (int slot = 10; slot < 18; slot++) {
            AnalysisHouse h = Due.analysed(0, 6, 63, 0, Lines.join(eight, Lines.of(33, 0)));
            h.run(0, 99);
            Due.due("told", h.outside(), Due.NONE);
            h.plant(0, 8, slot, 4, 4);
            h.run(0, 99);
            Due.due("slot " + slot, h.outside(), 8);
        }
        // SETS: METHOD 0 gives METHOD 1 an ARRAY of SITE 1; METHOD 2 gives it null
        AnalysisHouse h = new AnalysisHouse();
        h.method(0, 0, 0, 0);
        Due.code(h, 0, 0, 1, 28, 0, 32, 1, 33, 0);
        h.method(1, 1, 1, 0);
        Due.code(h, 1, 1, 0, 4, 0, 33, 0);
        h.method(0, 0, 0, 0);
        Due.code(h, 2, 3, 0, 32, 1, 33, 0);
        h.build();
        h.analyze(1);
        h.run(0, 99);
        Due.due("of its SITE", h.outside(), Due.NONE);
        h.run(2, 99);
        Due.due("METHOD 2 is not come to", h.outside(), 0);
        h.argument(2, 0);
        h.run(1, 99);
        Due.due("null is not told", h.outside(), 0);
        h.analyze(4);
        h.run(1, 99);
        Due.due("null is told", h.outside(), Due.NONE);
        h.forget();
        h.argument(1, 1);
        h.run(1, 99);
        Due.due("OUTSIDE is not told", h.outside(), 0);
        h.analyze(5);
        h.run(1, 99);
        Due.due("SITE 1 and null are, OUTSIDE is not", h.outside(), 0);
        h.analyze(2);
        h.run(1, 99);
        Due.due("OUTSIDE is told", h.outside(), Due.NONE);
    }

    /**
     * METHOD 0 gives METHOD 1 the number 5, and then 9; METHOD 1 has these lines. Its STATES are planted wide, so that
     * only LENGTHS, elements and FIELDS can be outside.
     */
    private static AnalysisHouse keeper(int... lines) {
        AnalysisHouse h = new AnalysisHouse();
        h.method(0, 0, 0, 0);
        Due.code(h, 0, 0, 5, 32, 1, 0, 9, 32, 1, 33, 0);
        h.method(1, 2, 2, 0);
        Due.code(h, 1, lines);
        h.build();
        h.analyze(1);
        for (int place = 0; place < lines.length / 2; place++) {
            for (int slot = 0; slot < 18; slot++) {
                h.plant(1, place, slot, MIN, MAX);
            }
        }
        return h;
    }

    private static void keeps(AnalysisHouse h, int v, int want) {
        h.forget();
        h.argument(0, v);
        h.run(1, 100);
        Due.due("given " + v, h.outside(), want);
    }

    private static void outsideOfLengths() {
        Due.of("or a LENGTH, an element of any ARRAY, a FIELD then;");
        // the ARRAY is dropped at once: it is one of any all the same
        AnalysisHouse h = keeper(1, 0, 28, 0, 4, 0, 33, 0);
        keeps(h, 5, Due.NONE);
        keeps(h, 9, Due.NONE);
        keeps(h, 4, 2);
        keeps(h, 10, 2);
        keeps(h, 7, 2);
        keeps(h, 0, 2);
        h.forget();
        h.argument(0, 4);
        h.run(1, 2);
        Due.due("none began behind the 28", h.outside(), Due.NONE);
    }

    private static void outsideOfElements() {
        Due.of("or a LENGTH, an element of any ARRAY, a FIELD then;");
        // put at the last of 3, and dropped
        AnalysisHouse h = keeper(0, 3, 28, 0, 0, 2, 1, 0, 31, 0, 33, 0);
        keeps(h, 5, Due.NONE);
        keeps(h, 9, Due.NONE);
        keeps(h, 0, Due.NONE);
        keeps(h, 6, Due.NONE);
        keeps(h, -1, 5);
        keeps(h, 10, 5);
        h.forget();
        h.argument(0, 10);
        h.run(1, 5);
        Due.due("none began behind the 31", h.outside(), Due.NONE);
    }

    private static void outsideOfFields() {
        Due.of("or a LENGTH, an element of any ARRAY, a FIELD then;");
        for (int f = 0; f < 4; f++) {
            // it is put back to 0 at once, but an INSTRUCTION began meanwhile
            AnalysisHouse h = keeper(1, 0, 35, f, 0, 0, 35, f, 33, 0);
            keeps(h, 5, Due.NONE);
            keeps(h, 9, Due.NONE);
            keeps(h, 0, Due.NONE);
            keeps(h, -1, 2);
            keeps(h, 10, 2);
            h.forget();
            h.argument(0, 10);
            h.run(1, 2);
            Due.due("none began behind the 35", h.outside(), Due.NONE);
        }
    }

    private static void outsideNone() {
        Due.of("NONE: none did, there was no CERTIFICATE, or no run().");
        AnalysisHouse h = Due.built(0, 0, 0, 0, 0, 1, 33, 0);
        Due.due("no run()", h.outside(), Due.NONE);
        h.run(0, 9);
        Due.due("no CERTIFICATE", h.outside(), Due.NONE);
        h.analyze(1);
        h.run(0, 9);
        Due.due("none did", h.outside(), Due.NONE);
        h.forgetState(0, 0);
        Due.due("it was told then", h.outside(), Due.NONE);
        h.run(0, 0);
        Due.due("none began", h.outside(), Due.NONE);
        h.run(0, 9);
        Due.due("the first did", h.outside(), 0);
        h.analyze(1);
        h.run(0, 9);
        Due.due("none did of the latest", h.outside(), Due.NONE);
    }

    private static void outsideThen() {
        Due.of("in THE CERTIFICATE as it was then,");
        AnalysisHouse h = Due.analysed(0, 0, 0, 0, 0, 1, 33, 0);
        h.forgetState(0, 1);
        h.run(0, 9);
        Due.due("then", h.outside(), 1);
        h.analyze(1);
        Due.due("another CERTIFICATE since", h.outside(), 1);
        h.run(0, -1);
        Due.due("a refused run", h.outside(), 1);
        h.code(0, 33, 0);
        Due.due("no CERTIFICATE since", h.outside(), 1);
        h.build();
        Due.due("a BUILD since", h.outside(), 1);
        h.run(0, 9);
        Due.due("a run without a CERTIFICATE", h.outside(), Due.NONE);
    }

    private static void argumentsAreOfOutside() {
        Due.of("(Arguments' ARRAYS are of OUTSIDE.)");
        AnalysisHouse h = Due.analysed(2, 2, 1, 0, 1, 0, 0, 0, 1, 1, 31, 0, 33, 0);
        for (int length : new int[] {1, 200}) {
            for (int v : new int[] {MIN, 0, MAX}) {
                h.forget();
                h.argument(1, length);
                h.argument(0, v);
                h.fill(0, length - 1, v);
                h.run(0, 9);
                Due.due("any LENGTH, any element", h.outside(), Due.NONE);
            }
        }
    }
}
