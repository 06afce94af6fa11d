/** The edges of THE MACHINE that 'Terms' names, sentence by sentence: what runs do there. */
public final class MachineEdgesTest {
    private static final int MIN = Integer.MIN_VALUE;
    private static final int MAX = Integer.MAX_VALUE;
    /** LOCALS 4 and 5 of the METHODS here are ARRAYS. */
    private static final int KINDS = 48;

    public static void main(String[] args) {
        numbersWrap();
        arraysAreNullOrNot();
        eightMethods();
        localsOfMethods();
        kindsAndResults();
        sixtyInstructions();
        fieldsBegin();
        methodsBegin();
        moves();
        arithmetic();
        jumps();
        arrays();
        calls();
        fields();
        divisionsByZero();
        nullsInPlaceOfArrays();
        indexes();
        sizesBelowZero();
        theSeventeenth();
        roomForArrays();
        roomForInts();
        endsAtTheInstruction();
        divisionsCutOff();
        Due.end("MachineEdgesTest");
    }

    private static AnalysisHouse given(int result, int[] ints, int... lines) {
        AnalysisHouse h = Due.built(ints.length, 6, KINDS, result, lines);
        for (int v : ints) {
            h.argument(0, v);
        }
        return h;
    }

    private static void back(String what, long want, int... lines) {
        AnalysisHouse h = given(1, new int[0], lines);
        Due.due(what + ": run", h.run(0, 20000), 1);
        Due.due(what, h.ran(0), want);
    }

    private static void two(int op, int i, int j, int want) {
        AnalysisHouse h = given(1, new int[] {i, j}, 1, 0, 1, 1, op, 0, 33, 0);
        Due.due("run", h.run(0, 4), 1);
        Due.due(i + " " + op + " " + j, h.ran(0), want);
    }

    private static void wrong(String what, int number, int place, int... lines) {
        AnalysisHouse h = given(1, new int[0], lines);
        Due.due(what + ": run", h.run(0, 20000), 2);
        Due.due(what + ": WRONG", h.ran(1), number);
        Due.due(what + ": METHOD", h.ran(3), 0);
        Due.due(what + ": PLACE", h.ran(4), place);
    }

    private static void numbersWrap() {
        Due.of("INTS have 32 bits and wrap.");
        two(7, MAX, 1, MIN);
        two(7, MIN, -1, MAX);
        two(7, MIN, MIN, 0);
        two(8, MIN, 1, MAX);
        two(8, MAX, -1, MIN);
        two(8, 0, MIN, MIN);
        two(9, 65536, 65536, 0);
        two(9, 46341, 46341, -2147479015);
        two(9, MAX, MAX, 1);
        two(9, MIN, -1, MIN);
        two(15, 3, 31, MIN);
        back("0 less the least", MIN, 0, MIN, 18, 0, 33, 0);
    }

    private static void arraysAreNullOrNot() {
        Due.of("An ARRAY is null, or has a LENGTH and so many INTS.");
        back("an ARRAY of none is not null", 1, 0, 0, 28, 0, 26, 5, 0, 1, 33, 0, 0, 2, 33, 0);
        back("null is", 2, 3, 0, 26, 4, 0, 1, 33, 0, 0, 2, 33, 0);
        back("an ARRAY of none has a LENGTH", 0, 0, 0, 28, 0, 29, 0, 33, 0);
        AnalysisHouse h = Due.built(1, 1, 1, 1, 1, 0, 26, 4, 0, 1, 33, 0, 0, 2, 33, 0);
        h.argument(1, 0);
        h.run(0, 9);
        Due.due("an argument of none is not null", h.ran(0), 1);
    }

    private static void eightMethods() {
        Due.of("METHODS 0 .. 7, as they are told");
        AnalysisHouse h = new AnalysisHouse();
        for (int m = 0; m < 8; m++) {
            Due.due("METHOD", h.method(0, 0, 0, 1), m);
        }
        for (int m = 7; m >= 0; m--) {
            Due.code(h, m, 0, 10 * m, 33, 0);
        }
        h.build();
        for (int m = 0; m < 8; m++) {
            Due.due("run", h.run(m, 2), 1);
            Due.due("RESULT of METHOD " + m, h.ran(0), 10 * m);
            Due.due("METHOD of the latest INSTRUCTION", h.ran(3), m);
        }
        Due.due("METHOD 8", h.run(8, 2), Due.NONE);
    }

    private static void localsOfMethods() {
        Due.of("ARGUMENTS (0 .. 3), LOCALS 0 .. 5 (the ARGUMENTS first)");
        AnalysisHouse h = Due.built(3, 6, 0, 1,
            1, 0, 0, 10, 9, 0, 1, 1, 7, 0, 0, 10, 9, 0, 1, 2, 7, 0, 33, 0);
        h.argument(0, 1);
        h.argument(0, 2);
        h.argument(0, 3);
        h.run(0, 99);
        Due.due("three ARGUMENTS are LOCALS 0, 1, 2", h.ran(0), 123);
        int[] put = new int[0];
        int[] read = Lines.of(0, 0);
        for (int local = 0; local < 6; local++) {
            put = Lines.join(put, Lines.of(0, local + 1, 2, local));
            read = Lines.join(read, Lines.of(0, 10, 9, 0, 1, local, 7, 0));
        }
        h = Due.built(0, 6, 0, 1, Lines.join(put, read, Lines.of(33, 0)));
        h.run(0, 99);
        Due.due("six LOCALS, each its own", h.ran(0), 123456);
        // METHOD k and 1 within METHOD k, each with six LOCALS of its own
        h = new AnalysisHouse();
        for (int m = 0; m < 3; m++) {
            h.method(0, 6, 0, 1);
            int[] call = m == 2 ? Lines.of(0, 0) : Lines.of(32, m + 1);
            Due.code(h, m, Lines.join(put, call, read, Lines.of(7, 0, 33, 0)));
        }
        h.build();
        Due.due("within one another: run", h.run(0, 999), 1);
        Due.due("within one another", h.ran(0), 3 * 123456);
        h = Due.built(0, 0, 0, 1, 0, 4, 33, 0);
        Due.due("none at all: run", h.run(0, 2), 1);
        Due.due("none at all", h.ran(0), 4);
    }

    private static void kindsAndResults() {
        Due.of("each of a KIND (I or A), a RESULT (0 none, 1 an INT, 2 an ARRAY),");
        int[][] lines = {{33, 0}, {1, 0, 33, 0}, {1, 1, 33, 0}};
        for (int result = 0; result <= 2; result++) {
            AnalysisHouse h = Due.built(2, 2, 2, result, lines[result]);
            h.argument(0, 77);
            h.argument(1, 9);
            Due.due("run", h.run(0, 9), 1);
            Due.due("RESULT " + result, h.ran(0), new int[] {0, 77, 9}[result]);
        }
    }

    private static void sixtyInstructions() {
        Due.of("a CODE of up to 60 INSTRUCTIONS, at PLACES 0, 1, .. .");
        AnalysisHouse h = Due.built(0, 0, 0, 1, Lines.join(Lines.times(29, 0, 1, 4, 0), Lines.of(0, 7, 33, 0)));
        Due.due("a 61st", h.code(0, 33, 0), Due.NONE);
        Due.due("59 INSTRUCTIONS begun", h.run(0, 59), 3);
        Due.due("all 60", h.run(0, 60), 1);
        Due.due("the last PLACE", h.ran(4), 59);
        Due.due("RESULT", h.ran(0), 7);
    }

    private static void fieldsBegin() {
        Due.of("FIELDS 0 .. 3 are INTS, 0 when a run begins.");
        int[] read = Lines.of(0, 0);
        int[] put = new int[0];
        for (int f = 0; f < 4; f++) {
            read = Lines.join(read, Lines.of(0, 10, 9, 0, 34, f, 7, 0));
            put = Lines.join(put, Lines.of(0, f + 1, 35, f));
        }
        AnalysisHouse h = Due.built(0, 0, 0, 1, Lines.join(read, put, Lines.of(33, 0)));
        for (int k = 0; k < 2; k++) {
            h.run(0, 99);
            Due.due("0 each, run " + k, h.ran(0), 0);
        }
        h = Due.built(0, 0, 0, 1, Lines.join(put, read, Lines.of(33, 0)));
        h.run(0, 99);
        Due.due("four FIELDS, each its own", h.ran(0), 1234);
        back("the least INT in FIELD 3", MIN, 0, MIN, 35, 3, 34, 3, 33, 0);
    }

    /** METHOD 1 gives LOCAL 0 and 1000 if LOCAL 1 is not null, and has put 7 and a new ARRAY there when it returns. */
    private static void methodsBegin() {
        Due.of("When a METHOD begins its other LOCALS are 0, null, its stack is empty.");
        AnalysisHouse h = new AnalysisHouse();
        h.method(0, 0, 0, 1);
        Due.code(h, 0, 32, 1, 32, 1, 7, 0, 32, 1, 7, 0, 33, 0);
        h.method(0, 2, 2, 1);
        Due.code(h, 1, 1, 1, 26, 5, 0, 1000, 2, 0, 19, 5, 1, 0, 0, 7, 2, 0, 0, 1, 28, 0, 2, 1, 33, 0);
        h.build();
        Due.due("run", h.run(0, 99), 1);
        Due.due("LOCALS are 0 and null, each time", h.ran(0), 0);
        for (int m = 0; m < 2; m++) {
            h.wipe(m);
        }
        // 70 and 80 lay above what is given
        Due.code(h, 0, 0, 70, 0, 80, 4, 0, 4, 0, 32, 1, 33, 0);
        Due.code(h, 1, 1, 0, 33, 0);
        h.build();
        h.run(0, 99);
        Due.due("LOCALS are 0 whatever lay on the stack", h.ran(0), 0);
        for (int m = 0; m < 2; m++) {
            h.wipe(m);
        }
        // 7 lie below the call, 8 on the stack of the called METHOD
        Due.code(h, 0, Lines.join(Lines.times(7, 0, 1), Lines.of(32, 1), Lines.times(7, 7, 0), Lines.of(33, 0)));
        Due.code(h, 1, Lines.join(Lines.times(8, 0, 100), Lines.times(7, 7, 0), Lines.of(33, 0)));
        h.build();
        Due.due("run with two full stacks", h.run(0, 99), 1);
        Due.due("each METHOD has a stack of its own", h.ran(0), 807);
    }

    private static void moves() {
        Due.of("0 a: ( - i) a. 1 LOCAL a: ( - v). 2 LOCAL a: (v - ). 3: ( - r) null. 4: (v - ). 5: (v - v v).");
        back("the least", MIN, 0, MIN, 33, 0);
        back("the greatest", MAX, 0, MAX, 33, 0);
        back("2 takes it, 1 leaves it", 12, 0, 5, 0, 7, 2, 0, 1, 0, 7, 0, 33, 0);
        back("an ARRAY in a LOCAL is the same one", 9,
            0, 2, 28, 0, 5, 0, 2, 4, 0, 1, 0, 9, 31, 0, 1, 4, 0, 1, 30, 0, 33, 0);
        back("null has a place on the stack", 5, 0, 5, 3, 0, 4, 0, 33, 0);
        wrong("null is none of the ARRAYS that there are", 2, 4, 0, 3, 28, 0, 2, 4, 3, 0, 29, 0, 33, 0);
        back("4 takes the top alone", 5, 0, 5, 0, 6, 4, 0, 33, 0);
        back("5", 49, 0, 7, 5, 0, 9, 0, 33, 0);
        Due.of("6: (v w - w v).");
        back("6 of INTS", 2, 0, 3, 0, 5, 6, 0, 8, 0, 33, 0);
        back("6 of an INT and null", 9, 0, 9, 3, 0, 6, 0, 33, 0);
        back("6 of an ARRAY and an INT", 3, 0, 3, 28, 0, 0, 9, 6, 0, 29, 0, 33, 0);
    }

    private static void arithmetic() {
        Due.of("i + j, i - j, i * j, i / j, i % j, and, or, xor, i shifted by j to the left, to the right with sign, "
            + "without sign (j's lowest 5 bits).");
        two(7, 5, -8, -3);
        two(8, 5, 8, -3);
        two(9, -5, 8, -40);
        two(10, 17, 5, 3);
        two(11, 17, 5, 2);
        two(12, -4, 7, 4);
        two(13, -4, 3, -1);
        two(14, -4, 3, -1);
        two(14, 6, 3, 5);
        int[][] left = {{0, -5}, {1, -10}, {31, MIN}, {32, -5}, {33, -10}, {-1, MIN}, {-32, -5}, {MIN, -5}, {MAX, MIN}};
        int[][] right = {{0, -5}, {1, -3}, {31, -1}, {32, -5}, {33, -3}, {-1, -1}, {-32, -5}, {MIN, -5}, {MAX, -1}};
        int[][] bare = {
            {0, -5}, {1, MAX - 2}, {31, 1}, {32, -5}, {33, MAX - 2}, {-1, 1}, {-32, -5}, {MIN, -5}, {MAX, 1}
        };
        for (int[] row : left) {
            two(15, -5, row[0], row[1]);
        }
        for (int[] row : right) {
            two(16, -5, row[0], row[1]);
        }
        for (int[] row : bare) {
            two(17, -5, row[0], row[1]);
        }
        Due.of("18: (i - i) -i.");
        back("0 less 5", -5, 0, 5, 18, 0, 33, 0);
        back("0 less 0", 0, 0, 0, 18, 0, 33, 0);
        back("0 less the greatest", MIN + 1, 0, MAX, 18, 0, 33, 0);
    }

    private static void jumps() {
        Due.of("19 a: goes on at PLACE a.");
        back("what lies on the stack stays", 4, 0, 9, 0, 5, 19, 3, 8, 0, 33, 0);
        back("forth and back", 6, 19, 3, 0, 6, 33, 0, 19, 1);
        Due.of("20 .. 25 a: (i j - ) goes on at a, if i is = j, not =, <, >=, >, <= j.");
        int[][] less = {{MIN, MAX}, {-1, 0}, {0, 1}, {MIN, MIN + 1}, {MAX - 1, MAX}, {MIN, 1}, {-1, MAX}};
        for (int[] pair : less) {
            compared(pair[0], pair[1], 0, 1, 1, 0, 0, 1);
            compared(pair[1], pair[0], 0, 1, 0, 1, 1, 0);
        }
        for (int v : new int[] {MIN, -1, 0, 1, MAX}) {
            compared(v, v, 1, 0, 0, 1, 0, 1);
        }
        Due.of("26, 27 a: (r - ) goes on at a, if it is null, is not.");
        for (int op = 26; op <= 27; op++) {
            back(op + " of null", op == 26 ? 2 : 1, 3, 0, op, 4, 0, 1, 33, 0, 0, 2, 33, 0);
            back(op + " of an ARRAY", op == 26 ? 1 : 2, 0, 0, 28, 0, op, 5, 0, 1, 33, 0, 0, 2, 33, 0);
            back(op + " leaves what lies below", 8, 0, 8, 3, 0, op, 3, 33, 0);
        }
    }

    /** Whether each of 20 .. 25 goes on at a; what lies below the two stays. */
    private static void compared(int i, int j, int... goes) {
        for (int k = 0; k < 6; k++) {
            AnalysisHouse h = given(1, new int[] {i, j},
                0, 40, 1, 0, 1, 1, 20 + k, 7, 0, 0, 7, 0, 33, 0, 0, 1, 7, 0, 33, 0);
            Due.due("run", h.run(0, 99), 1);
            Due.due(i + " " + (20 + k) + " " + j, h.ran(0), 40 + goes[k]);
        }
    }

    private static void arrays() {
        Due.of("28: (i - r) a new ARRAY of so many 0s. 29: (r - i) its LENGTH.");
        for (int length : new int[] {0, 1, 2000}) {
            back("LENGTH " + length, length, 0, length, 28, 0, 29, 0, 33, 0);
        }
        back("29 leaves what lies below", 13, 0, 10, 0, 3, 28, 0, 29, 0, 7, 0, 33, 0);
        // the first and the last are read, and then put: a second run must find 0s again
        AnalysisHouse h = given(1, new int[0],
            0, 5, 28, 0, 2, 4, 1, 4, 0, 0, 30, 0, 1, 4, 0, 4, 30, 0, 7, 0,
            1, 4, 0, 0, 0, 88, 31, 0, 1, 4, 0, 4, 0, 99, 31, 0, 33, 0);
        for (int k = 0; k < 2; k++) {
            h.run(0, 99);
            Due.due("0s, run " + k, h.ran(0), 0);
        }
        Due.of("30: (r i - i) what is at i. 31: (r i j - ) j is put there.");
        // two ARRAYS of 2: 1, 2 and 3, 4 are put there, read as 1234
        back("each element of each ARRAY is its own", 1234,
            0, 2, 28, 0, 2, 4, 0, 2, 28, 0, 2, 5,
            1, 5, 0, 1, 0, 4, 31, 0, 1, 4, 0, 0, 0, 1, 31, 0, 1, 5, 0, 0, 0, 3, 31, 0, 1, 4, 0, 1, 0, 2, 31, 0,
            1, 4, 0, 0, 30, 0, 0, 10, 9, 0, 1, 4, 0, 1, 30, 0, 7, 0, 0, 10, 9, 0,
            1, 5, 0, 0, 30, 0, 7, 0, 0, 10, 9, 0, 1, 5, 0, 1, 30, 0, 7, 0, 33, 0);
        back("31 leaves what lies below", 6, 0, 6, 0, 1, 28, 0, 0, 0, 0, 3, 31, 0, 33, 0);
    }

    private static void calls() {
        Due.of("32 METHOD a: (its ARGUMENTS - its RESULT). 33: (the RESULT - ) it returns.");
        AnalysisHouse h = new AnalysisHouse();
        h.method(0, 0, 0, 1);
        Due.code(h, 0, 0, 5000, 0, 1, 0, 2, 0, 3, 32, 1, 7, 0, 33, 0);
        h.method(3, 3, 0, 1);
        Due.code(h, 1, 0, 77, 1, 0, 0, 100, 9, 0, 1, 1, 0, 10, 9, 0, 7, 0, 1, 2, 7, 0, 33, 0);
        h.build();
        h.run(0, 99);
        Due.due("ARGUMENTS in their order, the rest of its stack is gone", h.ran(0), 5123);
        // without a RESULT nothing is put on the stack, whatever lies on that of the METHOD
        h = new AnalysisHouse();
        h.method(0, 0, 0, 1);
        Due.code(h, 0, 0, 8, 32, 1, 33, 0);
        h.method(0, 0, 0, 0);
        Due.code(h, 1, 0, 9, 33, 0);
        h.build();
        h.run(0, 99);
        Due.due("no RESULT", h.ran(0), 8);
        // an ARRAY is given, and given back; what is put there is seen
        h = new AnalysisHouse();
        h.method(0, 1, 1, 1);
        Due.code(h, 0, 0, 2, 28, 0, 5, 0, 2, 0, 32, 1, 29, 0, 0, 10, 9, 0, 1, 0, 0, 1, 30, 0, 7, 0, 33, 0);
        h.method(1, 1, 1, 2);
        Due.code(h, 1, 1, 0, 0, 1, 0, 6, 31, 0, 1, 0, 33, 0);
        h.build();
        h.run(0, 99);
        Due.due("an ARRAY", h.ran(0), 26);
    }

    private static void fields() {
        Due.of("34 FIELD a: ( - i). 35 FIELD a: (i - ).");
        back("35 takes the top alone", 4, 0, 4, 0, 9, 35, 0, 33, 0);
        back("34 leaves the FIELD as it is", 18, 0, 9, 35, 0, 34, 0, 34, 0, 7, 0, 33, 0);
        AnalysisHouse h = new AnalysisHouse();
        h.method(0, 0, 0, 1);
        Due.code(h, 0, 0, 3, 35, 2, 32, 1, 34, 2, 33, 0);
        h.method(0, 0, 0, 0);
        Due.code(h, 1, 34, 2, 0, 5, 7, 0, 35, 2, 33, 0);
        h.build();
        h.run(0, 99);
        Due.due("all METHODS have the same FIELDS", h.ran(0), 8);
    }

    private static void divisionsByZero() {
        Due.of("1 / or % by 0;");
        for (int op = 10; op <= 11; op++) {
            for (int i : new int[] {0, 1, -1, MIN, MAX}) {
                wrong(i + " by 0", 1, 2, 0, i, 0, 0, op, 0, 33, 0);
                AnalysisHouse h = given(1, new int[0], 0, i, 0, 1, op, 0, 33, 0);
                Due.due(i + " by 1", h.run(0, 9), 1);
                h = given(1, new int[0], 0, i, 0, -1, op, 0, 33, 0);
                Due.due(i + " by -1", h.run(0, 9), 1);
            }
        }
    }

    private static void nullsInPlaceOfArrays() {
        Due.of("2 null in place of an ARRAY (29 to 31);");
        wrong("29", 2, 1, 3, 0, 29, 0, 33, 0);
        wrong("30", 2, 2, 3, 0, 0, 0, 30, 0, 33, 0);
        wrong("31", 2, 3, 3, 0, 0, 0, 0, 0, 31, 0, 0, 0, 33, 0);
        wrong("a LOCAL that none was put to", 2, 1, 1, 5, 29, 0, 33, 0);
        AnalysisHouse h = new AnalysisHouse();
        h.method(0, 1, 1, 2);
        Due.code(h, 0, 3, 0, 2, 0, 3, 0, 4, 0, 1, 0, 32, 1, 33, 0);
        h.method(1, 1, 1, 2);
        Due.code(h, 1, 1, 0, 33, 0);
        h.build();
        Due.due("2, 4, 32 and 33 of null are not wrong", h.run(0, 99), 1);
        Due.due("null is given back", h.ran(0), -1);
    }

    private static void indexes() {
        Due.of("3 an index that is not 0 .. LENGTH less 1 (behind 2);");
        for (int length : new int[] {0, 1, 3}) {
            for (int index : new int[] {MIN, -1, 0, length - 1, length, length + 1, MAX}) {
                boolean fine = index >= 0 && index < length;
                index30(length, index, fine);
                index31(length, index, fine);
            }
        }
        wrong("30: null is seen first", 2, 2, 3, 0, 0, -1, 30, 0, 33, 0);
        wrong("31: null is seen first", 2, 3, 3, 0, 0, MAX, 0, 0, 31, 0, 0, 0, 33, 0);
    }

    private static void index30(int length, int index, boolean fine) {
        if (fine) {
            back("30 of " + length + " at " + index, 0, 0, length, 28, 0, 0, index, 30, 0, 33, 0);
        } else {
            wrong("30 of " + length + " at " + index, 3, 3, 0, length, 28, 0, 0, index, 30, 0, 33, 0);
        }
    }

    private static void index31(int length, int index, boolean fine) {
        int[] lines = {0, length, 28, 0, 0, index, 0, 5, 31, 0, 0, 6, 33, 0};
        if (fine) {
            back("31 of " + length + " at " + index, 6, lines);
        } else {
            wrong("31 of " + length + " at " + index, 3, 4, lines);
        }
    }

    private static void sizesBelowZero() {
        Due.of("4 a new ARRAY of less than 0;");
        wrong("-1", 4, 1, 0, -1, 28, 0, 29, 0, 33, 0);
        wrong("the least: 4, not 6", 4, 1, 0, MIN, 28, 0, 29, 0, 33, 0);
        back("0", 0, 0, 0, 28, 0, 29, 0, 33, 0);
        wrong("4 before 6 where there is no room either", 4, 3, 0, 2000, 28, 0, 0, -1, 28, 0, 29, 0, 33, 0);
    }

    /** deep(n) = n < 1 ? 0 : 1 + deep(n - 1) */
    private static void theSeventeenth() {
        Due.of("5 a METHOD would be the 17th within one another;");
        AnalysisHouse h = Due.built(1, 1, 0, 1,
            1, 0, 0, 1, 22, 10, 0, 1, 1, 0, 0, 1, 8, 0, 32, 0, 7, 0, 33, 0, 0, 0, 33, 0);
        h.argument(0, 15);
        Due.due("16 within one another", h.run(0, 999), 1);
        Due.due("their RESULT", h.ran(0), 15);
        h.forget();
        h.argument(0, 16);
        Due.due("the 17th", h.run(0, 999), 2);
        Due.due("WRONG", h.ran(1), 5);
        Due.due("at the 32", h.ran(4), 7);
        Due.due("begun: 8 of each of 16", h.ran(2), 128);
        Due.due("the most", h.ran(5), 16);
        // 40 calls one behind the other are not within one another
        h = new AnalysisHouse();
        h.method(0, 0, 0, 0);
        Due.code(h, 0, Lines.join(Lines.times(40, 32, 1), Lines.of(33, 0)));
        h.method(0, 0, 0, 0);
        Due.code(h, 1, 33, 0);
        h.build();
        Due.due("one behind the other", h.run(0, 999), 1);
    }

    /** For ever: a new ARRAY of none. */
    private static void roomForArrays() {
        Due.of("6 there would be more than 300 ARRAYS (those of arguments, too)");
        int[] lines = {0, 0, 28, 0, 4, 0, 19, 0};
        AnalysisHouse h = Due.built(0, 0, 0, 0, lines);
        Due.due("the 300th", h.run(0, 4 * 299 + 2), 3);
        Due.due("300", h.ran(7), 300);
        Due.due("the 301st", h.run(0, 4 * 300 + 2), 2);
        Due.due("WRONG", h.ran(1), 6);
        Due.due("at the 28", h.ran(4), 1);
        Due.due("300 still", h.ran(7), 300);
        h = Due.built(3, 3, 7, 0, lines);
        h.argument(1, 0);
        h.argument(2, 0);
        h.argument(1, 4);
        Due.due("298 beside two of arguments", h.run(0, 4 * 297 + 2), 3);
        Due.due("300 with them", h.ran(7), 300);
        Due.due("a 299th", h.run(0, 4 * 298 + 2), 2);
        Due.due("WRONG of the 299th", h.ran(1), 6);
        Due.due("a new run has its room again", h.run(0, 4 * 297 + 2), 3);
    }

    private static void roomForInts() {
        Due.of("or more than 2000 INTS in all of them.");
        back("2000 at once", 2000, 0, 2000, 28, 0, 29, 0, 33, 0);
        wrong("2001 at once", 6, 1, 0, 2001, 28, 0, 29, 0, 33, 0);
        wrong("the greatest at once", 6, 1, 0, MAX, 28, 0, 29, 0, 33, 0);
        back("1999, 1 and none", 0, 0, 1999, 28, 0, 4, 0, 0, 1, 28, 0, 4, 0, 0, 0, 28, 0, 29, 0, 33, 0);
        wrong("1999 and 2", 6, 4, 0, 1999, 28, 0, 4, 0, 0, 2, 28, 0, 29, 0, 33, 0);
        wrong("1 and the greatest", 6, 4, 0, 1, 28, 0, 4, 0, 0, MAX, 28, 0, 29, 0, 33, 0);
        for (int more = 1400; more <= 1401; more++) {
            AnalysisHouse h = Due.built(3, 3, 7, 1, 0, more, 28, 0, 29, 0, 33, 0);
            for (int k = 0; k < 3; k++) {
                h.argument(1, 200);
            }
            for (int k = 0; k < 2; k++) {
                Due.due(more + " beside 600 of arguments", h.run(0, 9), more == 1400 ? 1 : 2);
                Due.due(more + ": WRONG", h.ran(1), more == 1400 ? 0 : 6);
            }
        }
    }

    private static void endsAtTheInstruction() {
        Due.of("WRONGS end a run, at the INSTRUCTION:");
        AnalysisHouse h = new AnalysisHouse();
        h.method(0, 0, 0, 1);
        Due.code(h, 0, 0, 5, 35, 0, 32, 1, 0, 7, 35, 0, 0, 1, 33, 0);
        h.method(0, 0, 0, 0);
        Due.code(h, 1, 0, 1, 0, 0, 10, 0, 35, 0, 33, 0);
        h.build();
        Due.due("run", h.run(0, 99), 2);
        Due.due("what was done stays", h.ran(6), 5);
        Due.due("METHOD", h.ran(3), 1);
        Due.due("PLACE", h.ran(4), 2);
        Due.due("begun", h.ran(2), 6);
        Due.due("no RESULT", h.ran(0), 0);
        // 31 that is wrong puts nothing, 28 that is wrong makes nothing
        h = given(0, new int[0], 0, 3, 28, 0, 0, -4, 28, 0, 33, 0);
        h.run(0, 99);
        Due.due("no ARRAY more", h.ran(7), 1);
    }

    private static void divisionsCutOff() {
        Due.of("(/ cuts off; the least INT / -1 is itself, its % 0.)");
        two(10, 7, 2, 3);
        two(10, -7, 2, -3);
        two(10, 7, -2, -3);
        two(10, -7, -2, 3);
        two(10, -1, 2, 0);
        two(11, 7, -2, 1);
        two(11, -7, 2, -1);
        two(11, -7, -2, -1);
        two(10, MIN, -1, MIN);
        two(11, MIN, -1, 0);
        two(10, MIN, 1, MIN);
        two(10, MIN, MIN, 1);
        two(11, MIN, MIN, 0);
        two(11, MAX, MIN, MAX);
        two(10, MAX, MIN, 0);
        two(11, MIN, MAX, -1);
    }
}
