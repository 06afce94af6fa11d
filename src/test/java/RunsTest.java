/** Promises 18 to 22: arguments, runs and what they tell. */
public final class RunsTest {
    private static final int MIN = Integer.MIN_VALUE;
    private static final int MAX = Integer.MAX_VALUE;

    public static void main(String[] args) {
        arguments();
        fills();
        refused();
        arithmetic();
        jumps();
        wrongs();
        limitsOfRoom();
        depths();
        steps();
        results();
        freshEachTime();
        Due.end("RunsTest");
    }

    private static void arguments() {
        AnalysisHouse h = new AnalysisHouse();
        Due.due("kind -1", h.argument(-1, 0), Due.NONE);
        Due.due("kind 3", h.argument(3, 0), Due.NONE);
        Due.due("an ARRAY of -1", h.argument(1, -1), Due.NONE);
        Due.due("an ARRAY of 201", h.argument(1, 201), Due.NONE);
        Due.due("none are there", h.forget(), 0);
        Due.due("an INT", h.argument(0, MIN), 1);
        Due.due("an ARRAY of 200", h.argument(1, 200), 2);
        Due.due("null, any v", h.argument(2, -99), 3);
        Due.due("a 4th", h.argument(0, 0), Due.NONE);
        Due.due("forget", h.forget(), 3);
        Due.due("forget again", h.forget(), 0);
        Due.due("an ARRAY of 0", h.argument(1, 0), 1);
        h.build();
        h.method(0, 0, 0, 0);
        h.wipe(0);
        Due.due("they stay when METHODS come", h.forget(), 1);
    }

    private static void fills() {
        AnalysisHouse h = Due.built(2, 2, 1, 1, 1, 0, 1, 1, 30, 0, 33, 0);
        Due.due("no argument", h.fill(0, 0, 5), Due.NONE);
        h.argument(1, 3);
        Due.due("fill", h.fill(0, 2, 55), 1);
        Due.due("fill anew", h.fill(0, 2, 56), 1);
        Due.due("the first", h.fill(0, 0, MIN), 1);
        Due.due("beyond", h.fill(0, 3, 5), Due.NONE);
        Due.due("below", h.fill(0, -1, 5), Due.NONE);
        Due.due("argument 1", h.fill(1, 0, 5), Due.NONE);
        Due.due("argument -1", h.fill(-1, 0, 5), Due.NONE);
        h.argument(0, 2);
        Due.due("an INT", h.fill(1, 0, 5), Due.NONE);
        Due.due("run", h.run(0, 10), 1);
        Due.due("what was filled", h.ran(0), 56);
        h.forget();
        h.argument(1, 3);
        h.argument(0, 2);
        h.run(0, 10);
        Due.due("0 again, anew", h.ran(0), 0);
        h.forget();
        h.argument(2, 3);
        Due.due("null", h.fill(0, 0, 5), Due.NONE);
    }

    private static void refused() {
        AnalysisHouse h = new AnalysisHouse();
        h.method(2, 2, 2, 1);
        Due.code(h, 0, 1, 0, 33, 0);
        h.argument(0, 7);
        h.argument(2, 0);
        Due.due("no BUILD", h.run(0, 5), Due.NONE);
        h.build();
        Due.due("n below", h.run(0, -1), Due.NONE);
        Due.due("n above", h.run(0, 20001), Due.NONE);
        Due.due("METHOD 1", h.run(1, 5), Due.NONE);
        Due.due("METHOD -1", h.run(-1, 5), Due.NONE);
        Due.due("none ran", h.ran(2), 0);
        Due.due("fine", h.run(0, 20000), 1);
        Due.due("its RESULT", h.ran(0), 7);
        h.argument(0, 8);
        Due.due("three", h.run(0, 5), Due.NONE);
        h.forget();
        h.argument(0, 8);
        Due.due("one", h.run(0, 5), Due.NONE);
        h.argument(0, 8);
        Due.due("an INT for an ARRAY", h.run(0, 5), Due.NONE);
        h.forget();
        h.argument(1, 2);
        h.argument(1, 2);
        Due.due("an ARRAY for an INT", h.run(0, 5), Due.NONE);
        h.forget();
        h.argument(2, 2);
        h.argument(1, 2);
        Due.due("null for an INT", h.run(0, 5), Due.NONE);
        Due.due("refused ones change nothing", h.ran(0), 7);
        Due.due("nor INSTRUCTIONS", h.ran(2), 2);
        Due.due("ran -1", h.ran(-1), Due.NO);
        Due.due("ran 8", h.ran(8), Due.NO);
    }

    private static long two(int op, int i, int j) {
        AnalysisHouse h = Due.built(2, 2, 0, 1, 1, 0, 1, 1, op, 0, 33, 0);
        h.argument(0, i);
        h.argument(0, j);
        h.run(0, 100);
        return h.ran(0);
    }

    private static void arithmetic() {
        Due.due("7", two(7, MAX, 2), MIN + 1);
        Due.due("8", two(8, 3, 5), -2);
        Due.due("9", two(9, 65537, 65537), 131073);
        Due.due("10", two(10, -7, 2), -3);
        Due.due("10 least", two(10, MIN, -1), MIN);
        Due.due("11", two(11, -7, 2), -1);
        Due.due("11 least", two(11, MIN, -1), 0);
        Due.due("12", two(12, 12, 10), 8);
        Due.due("13", two(13, 12, 10), 14);
        Due.due("14", two(14, 12, 10), 6);
        Due.due("15", two(15, 3, 33), 6);
        Due.due("16", two(16, -8, 34), -2);
        Due.due("17", two(17, -8, 33), MAX - 3);
        AnalysisHouse h = Due.built(0, 0, 0, 1, 0, MIN, 18, 0, 33, 0);
        h.run(0, 9);
        Due.due("18 least", h.ran(0), MIN);
        h = Due.built(0, 0, 0, 1, 0, 10, 0, 3, 6, 0, 8, 0, 5, 0, 9, 0, 33, 0);
        h.run(0, 9);
        Due.due("6, 5", h.ran(0), 49);
        h = Due.built(0, 2, 0, 1, 0, 10, 2, 1, 0, 99, 4, 0, 1, 1, 1, 0, 7, 0, 33, 0);
        h.run(0, 9);
        Due.due("2, 4, 1", h.ran(0), 10);
    }

    private static void jumps() {
        int[][] pairs = {{4, 4}, {5, 4}, {3, 4}};
        int[][] want = {{1, 0, 0}, {0, 1, 1}, {0, 0, 1}, {1, 1, 0}, {0, 1, 0}, {1, 0, 1}};
        for (int op = 20; op <= 25; op++) {
            AnalysisHouse h = Due.built(2, 2, 0, 1, 1, 0, 1, 1, op, 5, 0, 0, 33, 0, 0, 1, 33, 0);
            for (int k = 0; k < 3; k++) {
                h.forget();
                h.argument(0, pairs[k][0]);
                h.argument(0, pairs[k][1]);
                Due.due("run", h.run(0, 9), 1);
                Due.due(pairs[k][0] + " " + op + " " + pairs[k][1], h.ran(0), want[op - 20][k]);
            }
        }
        for (int op = 26; op <= 27; op++) {
            AnalysisHouse h = Due.built(1, 1, 1, 1, 1, 0, op, 4, 0, 0, 33, 0, 0, 1, 33, 0);
            h.argument(2, 0);
            h.run(0, 9);
            Due.due(op + " of null", h.ran(0), op == 26 ? 1 : 0);
            h.forget();
            h.argument(1, 0);
            h.run(0, 9);
            Due.due(op + " of an ARRAY", h.ran(0), op == 26 ? 0 : 1);
        }
        AnalysisHouse h = Due.built(0, 0, 0, 1, 19, 2, 33, 0, 0, 5, 33, 0);
        h.run(0, 9);
        Due.due("19", h.ran(0), 5);
        Due.due("19: begun", h.ran(2), 3);
    }

    private static void wrong(String what, int number, int begun, int place, AnalysisHouse h) {
        Due.due(what + ": run", h.run(0, 20000), 2);
        Due.due(what + ": RESULT", h.ran(0), 0);
        Due.due(what + ": WRONG", h.ran(1), number);
        Due.due(what + ": begun", h.ran(2), begun);
        Due.due(what + ": METHOD", h.ran(3), 0);
        Due.due(what + ": PLACE", h.ran(4), place);
    }

    private static void wrongs() {
        wrong("/ 0", 1, 3, 2, Due.built(0, 0, 0, 1, 0, 5, 0, 0, 10, 0, 33, 0));
        wrong("% 0", 1, 3, 2, Due.built(0, 0, 0, 1, 0, 5, 0, 0, 11, 0, 33, 0));
        wrong("29 of null", 2, 2, 1, Due.built(0, 0, 0, 1, 3, 0, 29, 0, 33, 0));
        wrong("30 of null, behind which 3 is", 2, 3, 2, Due.built(0, 0, 0, 1, 3, 0, 0, -1, 30, 0, 33, 0));
        wrong("31 of null, behind which 3 is", 2, 4, 3, Due.built(0, 0, 0, 0, 3, 0, 0, -1, 0, 1, 31, 0, 33, 0));
        wrong("30 at -1", 3, 4, 3, Due.built(0, 0, 0, 1, 0, 3, 28, 0, 0, -1, 30, 0, 33, 0));
        wrong("30 at its LENGTH", 3, 4, 3, Due.built(0, 0, 0, 1, 0, 3, 28, 0, 0, 3, 30, 0, 33, 0));
        wrong("31 at its LENGTH", 3, 5, 4, Due.built(0, 0, 0, 0, 0, 3, 28, 0, 0, 3, 0, 9, 31, 0, 33, 0));
        wrong("31 at -1", 3, 5, 4, Due.built(0, 0, 0, 0, 0, 3, 28, 0, 0, -1, 0, 9, 31, 0, 33, 0));
        wrong("28 of -1", 4, 2, 1, Due.built(0, 0, 0, 2, 0, -1, 28, 0, 33, 0));
        wrong("28 of 2001", 6, 2, 1, Due.built(0, 0, 0, 2, 0, 2001, 28, 0, 33, 0));
        wrong("28 of the greatest", 6, 2, 1, Due.built(0, 0, 0, 2, 0, MAX, 28, 0, 33, 0));
        AnalysisHouse h = Due.built(0, 0, 0, 1, 0, 3, 28, 0, 5, 0, 0, 2, 0, 9, 31, 0, 0, 2, 30, 0, 33, 0);
        Due.due("the last of 3", h.run(0, 9), 1);
        Due.due("31, 30", h.ran(0), 9);
        Due.due("no WRONG", h.ran(1), 0);
        Due.due("ARRAYS", h.ran(7), 1);
    }

    private static void limitsOfRoom() {
        AnalysisHouse h = Due.built(0, 0, 0, 2, 0, 2000, 28, 0, 0, 0, 28, 0, 4, 0, 33, 0);
        Due.due("2000 INTS and an ARRAY of none", h.run(0, 9), 1);
        Due.due("ARRAYS", h.ran(7), 2);
        Due.due("LENGTH", h.ran(0), 2000);
        h = Due.built(1, 1, 1, 0, 0, 1800, 28, 0, 33, 0);
        h.argument(1, 200);
        Due.due("2000 with an argument's", h.run(0, 9), 1);
        h = Due.built(1, 1, 1, 0, 0, 1801, 28, 0, 33, 0);
        h.argument(1, 200);
        Due.due("2001 with an argument's", h.run(0, 9), 2);
        Due.due("WRONG", h.ran(1), 6);
        Due.due("ARRAYS then", h.ran(7), 1);
        // for ever: a new ARRAY of none
        h = Due.built(0, 0, 0, 0, 0, 0, 28, 0, 4, 0, 19, 0, 33, 0);
        Due.due("301 ARRAYS", h.run(0, 20000), 2);
        Due.due("WRONG of 301", h.ran(1), 6);
        Due.due("300 there are", h.ran(7), 300);
        Due.due("begun", h.ran(2), 1202);
        h = Due.built(2, 2, 3, 0, 0, 0, 28, 0, 4, 0, 19, 0, 33, 0);
        h.argument(1, 1);
        h.argument(2, 1);
        h.run(0, 20000);
        Due.due("300 with an argument's", h.ran(7), 300);
        Due.due("begun with an argument's", h.ran(2), 1198);
        // the least of 0s is gone when a new run begins
        Due.due("again", h.run(0, 20), 3);
        Due.due("ARRAYS again", h.ran(7), 6);
    }

    private static void depths() {
        AnalysisHouse h = Due.built(0, 0, 0, 0, 32, 0, 33, 0);
        Due.due("for ever deeper", h.run(0, 100), 2);
        Due.due("WRONG 5", h.ran(1), 5);
        Due.due("begun: the 17th is not", h.ran(2), 16);
        Due.due("the most", h.ran(5), 16);
        Due.due("PLACE", h.ran(4), 0);
        // deep(n): n < 1 ? 0 : 1 + deep(n - 1)
        h = Due.built(1, 1, 0, 1, 1, 0, 0, 1, 22, 10, 0, 1, 1, 0, 0, 1, 8, 0, 32, 0, 7, 0, 33, 0, 0, 0, 33, 0);
        h.argument(0, 15);
        Due.due("16 within one another", h.run(0, 1000), 1);
        Due.due("RESULT", h.ran(0), 15);
        Due.due("16", h.ran(5), 16);
        h.forget();
        h.argument(0, 16);
        Due.due("17 within one another", h.run(0, 1000), 2);
        Due.due("WRONG of 17", h.ran(1), 5);
        h.forget();
        h.argument(0, 0);
        h.run(0, 1000);
        Due.due("alone", h.ran(5), 1);
        // METHODS one behind another are not within one another
        h = new AnalysisHouse();
        h.method(0, 0, 0, 1);
        Due.code(h, 0, 0, 100, 0, 3, 0, 1, 32, 1, 0, 7, 0, 2, 32, 1, 7, 0, 8, 0, 33, 0);
        h.method(2, 3, 0, 1);
        Due.code(h, 1, 1, 0, 1, 1, 8, 0, 1, 2, 7, 0, 0, 50, 2, 2, 33, 0);
        h.build();
        Due.due("run", h.run(0, 100), 1);
        Due.due("100 less (3 less 1, and 7 less 2)", h.ran(0), 93);
        Due.due("two", h.ran(5), 2);
    }

    private static void steps() {
        AnalysisHouse h = new AnalysisHouse();
        h.method(0, 0, 0, 0);
        h.code(0, 33, 0);
        h.method(0, 0, 0, 1);
        Due.code(h, 1, 0, 6, 35, 0, 0, 5, 33, 0);
        h.build();
        Due.due("n = 0", h.run(1, 0), 3);
        long[] none = {0, 0, 0, 1, 0, 1, 0, 0};
        for (int what = 0; what < 8; what++) {
            Due.due("n = 0: " + what, h.ran(what), none[what]);
        }
        Due.due("n = 3", h.run(1, 3), 3);
        long[] three = {0, 0, 3, 1, 2, 1, 6, 0};
        for (int what = 0; what < 8; what++) {
            Due.due("n = 3: " + what, h.ran(what), three[what]);
        }
        Due.due("n = 4", h.run(1, 4), 1);
        long[] four = {5, 0, 4, 1, 3, 1, 6, 0};
        for (int what = 0; what < 8; what++) {
            Due.due("n = 4: " + what, h.ran(what), four[what]);
        }
        h = Due.built(0, 0, 0, 0, 19, 0);
        Due.due("20000", h.run(0, 20000), 3);
        Due.due("begun", h.ran(2), 20000);
        h = new AnalysisHouse();
        h.method(0, 0, 0, 0);
        Due.code(h, 0, 32, 1, 33, 0);
        h.method(0, 0, 0, 0);
        Due.code(h, 1, 19, 1, 3, 0, 29, 0, 33, 0);
        h.build();
        h.run(0, 2);
        Due.due("METHOD of the latest", h.ran(3), 1);
        Due.due("PLACE of the latest", h.ran(4), 0);
        h.run(0, 20);
        Due.due("METHOD of the WRONG", h.ran(3), 1);
        Due.due("PLACE of the WRONG", h.ran(4), 2);
    }

    private static void results() {
        AnalysisHouse h = Due.built(1, 1, 1, 2, 1, 0, 33, 0);
        h.argument(1, 17);
        h.run(0, 9);
        Due.due("an ARRAY's LENGTH", h.ran(0), 17);
        Due.due("ARRAYS", h.ran(7), 1);
        h.forget();
        h.argument(2, 17);
        h.run(0, 9);
        Due.due("null", h.ran(0), -1);
        Due.due("no ARRAYS", h.ran(7), 0);
        h = Due.built(0, 0, 0, 0, 0, 4, 33, 0);
        Due.due("without: run", h.run(0, 9), 1);
        Due.due("without", h.ran(0), 0);
        h = Due.built(0, 0, 0, 1, 34, 0, 0, 1, 7, 0, 35, 0, 34, 0, 34, 1, 7, 0, 33, 0);
        h.run(0, 20);
        Due.due("FIELDS", h.ran(0), 1);
        Due.due("FIELD 0", h.ran(6), 1);
    }

    /** FIELDS and arguments are as at first when a run begins. */
    private static void freshEachTime() {
        AnalysisHouse h = Due.built(1, 2, 1, 1,
            1, 0, 0, 0, 30, 0, 34, 0, 7, 0, 1, 1, 7, 0, 2, 1,
            1, 0, 0, 0, 0, 1000, 31, 0, 0, 500, 35, 0, 1, 1, 33, 0);
        h.argument(1, 2);
        h.fill(0, 0, 7);
        for (int k = 0; k < 2; k++) {
            Due.due("run", h.run(0, 100), 1);
            Due.due("RESULT", h.ran(0), 7);
            Due.due("FIELD 0", h.ran(6), 500);
        }
        // a METHOD's other LOCALS are 0 each time it begins
        AnalysisHouse g = new AnalysisHouse();
        g.method(0, 0, 0, 1);
        Due.code(g, 0, 32, 1, 32, 1, 7, 0, 33, 0);
        g.method(0, 1, 0, 1);
        Due.code(g, 1, 1, 0, 0, 9, 2, 0, 33, 0);
        g.build();
        g.run(0, 100);
        Due.due("LOCALS", g.ran(0), 0);
    }
}
