/** The edges of A BUILD that 'Terms' names, sentence by sentence: each FAULT, where it is, which one is met first. */
public final class BuildEdgesTest {
    private static final int MIN = Integer.MIN_VALUE;
    private static final int MAX = Integer.MAX_VALUE;
    private static final int I = 0;
    private static final int R = 3;
    /** Takes nothing: a METHOD's end, whatever lies on its stack. */
    private static final int END = 33;

    public static void main(String[] args) {
        asTheyAre();
        operands();
        operandsFirst();
        methodByMethod();
        withoutCode();
        leastPlaceFirst();
        notThere();
        anotherKind();
        kindsThatArePut();
        kindOfTheLocal();
        moreThanEight();
        endOfTheCode();
        anotherShape();
        nextBeforeA();
        asFarAsItGoesOn();
        theTwentyFifth();
        behindAll();
        numbersOfSites();
        Due.end("BuildEdgesTest");
    }

    /** METHOD 0 has LOCALS of KINDS I, A, I and no RESULT; METHODS 1 to 6 are there to be called. */
    private static AnalysisHouse told(int... lines) {
        AnalysisHouse h = new AnalysisHouse();
        h.method(0, 3, 2, 0);
        Due.code(h, 0, lines);
        callee(h, 0, 0, 0, Lines.of(END, 0));
        callee(h, 0, 0, 1, Lines.of(I, 1, END, 0));
        callee(h, 0, 0, 2, Lines.of(R, 0, END, 0));
        callee(h, 1, 0, 0, Lines.of(END, 0));
        callee(h, 1, 1, 0, Lines.of(END, 0));
        callee(h, 3, 2, 1, Lines.of(I, 1, END, 0));
        return h;
    }

    private static void callee(AnalysisHouse h, int arguments, int kinds, int result, int[] lines) {
        Due.code(h, h.method(arguments, arguments, kinds, result), lines);
    }

    private static void faultOf(String what, int number, int m, int place, AnalysisHouse h) {
        Due.due(what + ": build", h.build(), -number);
        Due.due(what + ": METHOD", h.faultAt(0), m);
        Due.due(what + ": PLACE", h.faultAt(1), place);
    }

    private static void fault(String what, int number, int place, int... lines) {
        faultOf(what, number, 0, place, told(lines));
    }

    private static void fine(String what, int sites, int... lines) {
        AnalysisHouse h = told(lines);
        Due.due(what + ": build", h.build(), sites);
        Due.due(what + ": no FAULT", h.faultAt(0), Due.NONE);
        Due.due(what + ": no PLACE of one", h.faultAt(1), Due.NONE);
    }

    private static void asTheyAre() {
        Due.of("A BUILD takes all METHODS as they are.");
        AnalysisHouse h = new AnalysisHouse();
        Due.due("none", h.build(), 1);
        h.method(0, 0, 0, 0);
        h.code(0, END, 0);
        h.method(0, 0, 0, 0);
        faultOf("METHOD 1, which none calls, has no CODE", 4, 1, 0, h);
        h.code(1, END, 0);
        Due.due("now it has", h.build(), 1);
        h.code(1, 34, 4);
        faultOf("a 34 behind the 33", 1, 1, 1, h);
        h.wipe(1);
        faultOf("wiped", 4, 1, 0, h);
        // what an earlier BUILD has looked at is looked at again
        h = new AnalysisHouse();
        for (int m = 0; m < 8; m++) {
            h.method(0, 0, 0, 0);
            Due.code(h, m, I, 1, I, 2, 4, 0, 4, 0, END, 0);
        }
        for (int m = 7; m >= 0; m--) {
            Due.due("all are fine", h.build(), 1);
            for (int wrong = 0; wrong < 5; wrong++) {
                h.wipe(m);
                Due.code(h, m, Lines.join(Lines.times(wrong, 32, m), Lines.of(29, 0), Lines.times(4 - wrong, END, 0)));
                faultOf("METHOD " + m + " now", 2, m, wrong, h);
            }
            h.wipe(m);
            Due.code(h, m, I, 1, I, 2, 4, 0, 4, 0, END, 0);
        }
    }

    private static void operands() {
        Due.of("the operand of 1, 2, 19 to 27, 32, 34, 35 is none (a PLACE must be within the CODE).");
        for (int none : new int[] {3, -1, MIN, MAX}) {
            fault("1 of LOCAL " + none, 1, 1, END, 0, 1, none);
            fault("2 of LOCAL " + none, 1, 1, END, 0, 2, none);
        }
        fine("LOCAL 2 of 3", 1, 1, 2, 2, 2, 1, 0, 2, 0, END, 0);
        for (int op = 19; op <= 27; op++) {
            for (int none : new int[] {3, -1, 60, MIN, MAX}) {
                fault(op + " to " + none, 1, 1, END, 0, op, none, END, 0);
            }
            fine(op + " to the last", 1, END, 0, op, 2, END, 0);
            fine(op + " to the first", 1, END, 0, op, 0, END, 0);
        }
        for (int none : new int[] {7, 8, -1, MIN, MAX}) {
            fault("32 of METHOD " + none, 1, 0, 32, none, END, 0);
        }
        fine("32 of the last METHOD", 1, R, 0, R, 0, END, 0, 32, 6, END, 0);
        fine("32 of itself", 1, 32, 0, END, 0);
        for (int op = 34; op <= 35; op++) {
            for (int none : new int[] {4, -1, MIN, MAX}) {
                fault(op + " of FIELD " + none, 1, 1, END, 0, op, none);
            }
            fine(op + " of FIELDS 0 and 3", 1, END, 0, op, 0, op, 3);
        }
        for (int any : new int[] {MIN, -1, 60, MAX}) {
            fine("others take any operand", 2, I, any, 5, any, 7, any, 18, any, 28, any, 29, any, 4, any, R, any,
                4, any, I, any, I, any, 6, any, 17, any, END, any);
        }
    }

    private static void operandsFirst() {
        Due.of("FAULT 1, the first by METHODS and PLACES:");
        AnalysisHouse h = new AnalysisHouse();
        h.method(0, 0, 0, 0);
        h.method(0, 0, 0, 0);
        Due.code(h, 0, END, 0, END, 0, 34, 9, 34, 9);
        Due.code(h, 1, 34, 9);
        faultOf("the first METHOD, its first PLACE", 1, 0, 2, h);
        h.wipe(0);
        faultOf("before a METHOD without a CODE", 1, 1, 0, h);
        Due.code(h, 0, 4, 0, END, 0);
        faultOf("before FAULT 2 of a METHOD before it", 1, 1, 0, h);
        fault("at PLACE 0", 1, 0, 1, 3, 1, 3);
        h = told(Lines.join(Lines.of(END, 0), Lines.times(58, I, 0), Lines.of(19, 60)));
        faultOf("at PLACE 59", 1, 0, 59, h);
        h = new AnalysisHouse();
        for (int m = 0; m < 8; m++) {
            h.method(0, 0, 0, 0);
            h.code(m, END, 0);
        }
        h.code(7, 32, 8);
        faultOf("of METHOD 7", 1, 7, 1, h);
    }

    private static void methodByMethod() {
        Due.of("Then METHOD by METHOD, the first that is met:");
        AnalysisHouse h = new AnalysisHouse();
        h.method(0, 0, 0, 0);
        h.method(0, 0, 0, 0);
        Due.code(h, 0, I, 0, I, 0, 19, 4, END, 0, 29, 0);
        Due.code(h, 1, 4, 0);
        faultOf("a later PLACE of the first METHOD", 2, 0, 4, h);
        h.wipe(0);
        h.code(0, END, 0);
        faultOf("then the second", 2, 1, 0, h);
    }

    private static void withoutCode() {
        Due.of("0 has an empty one (4 at 0 without a CODE).");
        AnalysisHouse h = new AnalysisHouse();
        h.method(3, 6, 63, 2);
        faultOf("without a CODE", 4, 0, 0, h);
        // ARGUMENTS are LOCALS, they do not lie on the stack
        h.code(0, 4, 0);
        h.code(0, END, 0);
        faultOf("an empty stack at PLACE 0", 2, 0, 0, h);
        h = told(I, 0, 19, 0);
        faultOf("PLACE 0 has its SHAPE from the start", 5, 0, 1, h);
    }

    private static void leastPlaceFirst() {
        Due.of("Again and again the least PLACE that has a SHAPE and was not looked at:");
        // PLACES 3 and 4 get their SHAPES at once, from PLACE 2
        fault("3 before 4", 2, 3, I, 0, I, 0, 20, 4, 29, 0, 29, 0);
        // PLACE 1 has its SHAPE from PLACE 4 only, and is looked at before PLACE 5
        fault("back to 1 before 5", 2, 1, 19, 2, 4, 0, I, 0, I, 0, 20, 1, 29, 0);
        // PLACE 5 has its SHAPE from PLACE 2 on; PLACES 3 and 4 come before it
        fault("straight on before a", 2, 4, I, 0, I, 0, 20, 5, I, 0, 29, 0, 29, 0);
        // each is looked at once: a loop ends
        fine("a loop", 1, I, 5, 2, 0, 1, 0, I, 0, 23, 2, 19, 0);
        fault("of 60 the last", 2, 59, Lines.join(Lines.times(58, 32, 1), Lines.of(32, 1, 4, 0)));
        fault("of 60 the last is looked at though it is the 60th", 4, 59, Lines.times(60, 32, 1));
    }

    /** What each INSTRUCTION takes, the last one on top: i, r, or v of either KIND. */
    private static final String[] TAKES = {
        "", "", "i", "", "v", "v", "vv", "ii", "ii", "ii", "ii", "ii", "ii", "ii", "ii", "ii", "ii", "ii",
        "i", "", "ii", "ii", "ii", "ii", "ii", "ii", "r", "r", "i", "r", "ri", "rii", "iri", "", "", "i"
    };

    /** The operand with which an INSTRUCTION takes what stands above: LOCAL 0, METHOD 6, this PLACE, FIELD 0. */
    private static int operand(int op, int place) {
        return op == 32 ? 6 : op >= 19 && op <= 27 ? place + 1 : 0;
    }

    private static int[] putting(String kinds) {
        int[] lines = new int[0];
        for (char kind : kinds.toCharArray()) {
            lines = Lines.join(lines, Lines.of(kind == 'r' ? R : I, 0));
        }
        return lines;
    }

    private static void taking(String what, int fault, int op, String kinds) {
        int place = kinds.length();
        int[] lines = Lines.join(putting(kinds), Lines.of(op, operand(op, place), END, 0));
        if (fault == 0) {
            fine(what + " on " + kinds, op == 28 ? 2 : 1, lines);
        } else {
            fault(what + " on " + kinds, fault, place, lines);
        }
    }

    private static void notThere() {
        Due.of("2 what it takes is not there,");
        for (int op = 0; op < 36; op++) {
            String takes = TAKES[op].replace('v', 'i');
            taking(op + " with all", 0, op, takes);
            for (int less = 1; less <= takes.length(); less++) {
                taking(op + " with less", 2, op, takes.substring(less));
            }
        }
        faultOf("33 of a RESULT that is not there", 2, 0, 0, returning(1));
        faultOf("33 of an ARRAY that is not there", 2, 0, 0, returning(2));
        Due.due("33 without a RESULT takes nothing", returning(0).build(), 1);
        Due.due("33 leaves what lies below", returning(1, I, 0, R, 0, I, 0).build(), 1);
    }

    private static AnalysisHouse returning(int result, int... lines) {
        AnalysisHouse h = new AnalysisHouse();
        h.method(0, 0, 0, result);
        Due.code(h, 0, lines);
        h.code(0, END, 0);
        return h;
    }

    private static void anotherKind() {
        Due.of("or of another KIND");
        for (int op = 0; op < 36; op++) {
            for (int at = 0; at < TAKES[op].length(); at++) {
                char kind = TAKES[op].charAt(at);
                StringBuilder other = new StringBuilder(TAKES[op].replace('v', 'i'));
                other.setCharAt(at, kind == 'r' ? 'i' : 'r');
                taking(op + " of another KIND at " + at, kind == 'v' ? 0 : 2, op, other.toString());
            }
        }
        faultOf("33 of an ARRAY for an INT", 2, 0, 1, returning(1, R, 0));
        faultOf("33 of an INT for an ARRAY", 2, 0, 1, returning(2, I, 0));
        Due.due("33 of an ARRAY", returning(2, R, 0).build(), 1);
        Due.due("33 without a RESULT leaves an ARRAY", returning(0, R, 0).build(), 1);
    }

    /** What each INSTRUCTION leaves on the stack: 18 takes an INT, 29 an ARRAY, 4 what is not there any more. */
    private static void leaves(String what, String kinds, int... lines) {
        int place = lines.length / 2;
        int[] off = new int[0];
        for (int k = kinds.length() - 1; k >= 0; k--) {
            int wanted = kinds.charAt(k) == 'r' ? 29 : 18;
            fault(what + ": KIND of " + k, 2, place, Lines.join(lines, off, Lines.of(47 - wanted, 0, END, 0)));
            off = Lines.join(off, Lines.of(wanted, 0, 4, 0));
            place += 2;
        }
        fault(what + ": no more", 2, place, Lines.join(lines, off, Lines.of(4, 0, END, 0)));
    }

    private static void kindsThatArePut() {
        Due.of("SHAPES: of a PLACE the KINDS on the stack when it is come to:");
        leaves("0", "i", I, 0);
        leaves("1 of an INT", "i", 1, 0);
        leaves("1 of an ARRAY", "r", 1, 1);
        leaves("2", "i", I, 0, I, 0, 2, 0);
        leaves("3", "r", R, 0);
        leaves("4", "r", R, 0, I, 0, 4, 0);
        leaves("5 of an INT", "rii", R, 0, I, 0, 5, 0);
        leaves("5 of an ARRAY", "irr", I, 0, R, 0, 5, 0);
        leaves("6 of i i", "ii", I, 0, I, 0, 6, 0);
        leaves("6 of i r", "ri", I, 0, R, 0, 6, 0);
        leaves("6 of r i", "ir", R, 0, I, 0, 6, 0);
        leaves("6 of r r", "rr", R, 0, R, 0, 6, 0);
        leaves("6 above an ARRAY", "rir", R, 0, R, 0, I, 0, 6, 0);
        leaves("6 above an INT", "iri", I, 0, I, 0, R, 0, 6, 0);
        for (int op = 7; op <= 17; op++) {
            leaves(op + " above an ARRAY", "ri", R, 0, I, 0, I, 0, op, 0);
        }
        leaves("18", "ri", R, 0, I, 0, 18, 0);
        leaves("19", "ri", R, 0, I, 0, 19, 3);
        for (int op = 20; op <= 25; op++) {
            leaves(op + " above an ARRAY", "r", R, 0, I, 0, I, 0, op, 4);
        }
        leaves("26", "i", I, 0, R, 0, 26, 3);
        leaves("27", "r", R, 0, R, 0, 27, 3);
        leaves("28", "ir", I, 0, I, 0, 28, 0);
        leaves("29", "ri", R, 0, R, 0, 29, 0);
        leaves("30", "ri", R, 0, R, 0, I, 0, 30, 0);
        leaves("31", "r", R, 0, R, 0, I, 0, I, 0, 31, 0);
        leaves("32 without a RESULT", "r", R, 0, 32, 1);
        leaves("32 of an INT", "ri", R, 0, 32, 2);
        leaves("32 of an ARRAY", "ir", I, 0, 32, 3);
        leaves("32 of a METHOD that takes an INT", "r", R, 0, I, 0, 32, 4);
        leaves("32 of a METHOD that takes an ARRAY", "i", I, 0, R, 0, 32, 5);
        leaves("32 of a METHOD that takes i r i", "ri", R, 0, I, 0, R, 0, I, 0, 32, 6);
        leaves("34", "ri", R, 0, 34, 3);
        leaves("35", "r", R, 0, I, 0, 35, 3);
    }

    private static void kindOfTheLocal() {
        Due.of("(of 2 that of the LOCAL)");
        fault("an ARRAY to an INT", 2, 1, R, 0, 2, 0, END, 0);
        fault("an INT to an ARRAY", 2, 1, I, 0, 2, 1, END, 0);
        fault("an ARRAY to the last LOCAL, an INT", 2, 1, R, 0, 2, 2, END, 0);
        fine("each its own", 1, I, 0, 2, 0, R, 0, 2, 1, I, 0, 2, 2, END, 0);
    }

    private static void moreThanEight() {
        Due.of("3 more than 8 would lie there;");
        int[] seven = Lines.times(7, I, 0);
        int[] eight = Lines.times(8, I, 0);
        int[][] putting = {{I, 0}, {1, 0}, {1, 1}, {R, 0}, {5, 0}, {32, 2}, {32, 3}, {34, 0}};
        for (int[] line : putting) {
            fine(line[0] + " makes 8", 1, Lines.join(seven, line, Lines.of(END, 0)));
            fault(line[0] + " would make 9", 3, 8, Lines.join(eight, line, Lines.of(END, 0)));
        }
        int[][] keeping = {
            {2, 0}, {4, 0}, {6, 0}, {7, 0}, {18, 0}, {19, 9}, {20, 9}, {28, 0}, {32, 1}, {32, 4}, {35, 0}
        };
        for (int[] line : keeping) {
            fine(line[0] + " on 8", line[0] == 28 ? 2 : 1, Lines.join(eight, line, Lines.of(END, 0)));
        }
        fault("2 is seen before 3", 2, 8, Lines.join(eight, Lines.of(29, 0, END, 0)));
        fault("3 is seen before 4", 3, 8, Lines.join(eight, Lines.of(I, 0)));
        fault("3 is seen before 5", 3, 9, Lines.join(eight, Lines.of(19, 9, 5, 0, END, 0)));
    }

    private static void endOfTheCode() {
        Due.of("4 that is the end of the CODE;");
        for (int op = 0; op < 36; op++) {
            if (op == 19 || op == END) {
                continue;
            }
            String takes = TAKES[op].replace('v', 'i');
            int a = op == 32 ? 6 : 0;
            fault(op + " is the last", 4, takes.length(), Lines.join(putting(takes), Lines.of(op, a)));
        }
        fine("33 is the last", 1, I, 0, END, 0);
        fine("19 is the last", 1, 19, 0);
        fine("none comes to the last", 1, END, 0, I, 0);
    }

    private static void anotherShape() {
        Due.of("5 there is another SHAPE (all of these at the INSTRUCTION that is looked at).");
        fault("one more", 5, 1, I, 0, 19, 0);
        fault("one less", 5, 3, I, 0, 19, 2, 4, 0, 19, 2);
        fault("another KIND, as many", 5, 4, I, 0, 19, 2, 4, 0, R, 0, 19, 2);
        fault("another KIND below the top", 5, 7, R, 0, I, 0, 19, 3, 4, 0, 4, 0, I, 0, I, 0, 19, 3);
        // PLACE 6 has an INT from PLACE 4 when PLACE 5 goes on to it with an ARRAY
        fault("another KIND next", 5, 5, I, 0, I, 0, 20, 5, I, 0, 19, 6, R, 0, END, 0);
        fine("the same SHAPE", 1, I, 0, I, 0, 20, 5, I, 0, 19, 6, I, 7, END, 0);
        // one more lies there than at PLACE 0
        for (int op = 20; op <= 25; op++) {
            fault(op + " back to another SHAPE", 5, 3, I, 0, I, 0, I, 0, op, 0, END, 0);
        }
        for (int op = 26; op <= 27; op++) {
            fault(op + " back to another SHAPE", 5, 2, R, 0, R, 0, op, 0, END, 0);
        }
    }

    private static void nextBeforeA() {
        Due.of("then of the next PLACE, then of a,");
        for (int op = 20; op <= 25; op++) {
            fault(op + ": the end next, another SHAPE at a", 4, 3, I, 0, I, 0, I, 0, op, 0);
        }
        for (int op = 26; op <= 27; op++) {
            fault(op + ": the end next, another SHAPE at a", 4, 2, R, 0, R, 0, op, 0);
        }
    }

    private static void asFarAsItGoesOn() {
        Due.of("as far as it goes on there:");
        fine("19 does not go on at the next PLACE", 1, 19, 2, 29, 0, END, 0);
        fine("33 goes on nowhere", 1, END, 0, 29, 0);
        for (int op = 20; op <= 25; op++) {
            fault(op + " goes on next", 2, 3, I, 0, I, 0, op, 4, 29, 0, END, 0);
            fault(op + " goes on at a", 2, 4, I, 0, I, 0, op, 4, END, 0, 29, 0);
        }
        for (int op = 26; op <= 27; op++) {
            fault(op + " goes on next", 2, 2, R, 0, op, 3, 29, 0, END, 0);
            fault(op + " goes on at a", 2, 3, R, 0, op, 3, END, 0, 29, 0);
        }
        fault("19 goes on at a", 2, 2, 19, 2, END, 0, 29, 0);
        fine("others do not go on at their operand", 1, I, 3, 4, 3, END, 0, 29, 0);
        fine("32 does not go on at a PLACE of its operand", 1, 32, 2, 4, 0, END, 0);
        fine("34 and 35 do not", 1, 34, 3, 35, 3, END, 0, 29, 0);
    }

    private static AnalysisHouse making(int first, int second) {
        AnalysisHouse h = new AnalysisHouse();
        h.method(0, 0, 0, 0);
        h.method(0, 0, 0, 0);
        Due.code(h, 0, Lines.join(Lines.times(first, I, 1, 28, 0, 4, 0), Lines.of(END, 0)));
        Due.code(h, 1, Lines.join(Lines.times(second, I, 1, 28, 0, 4, 0), Lines.of(END, 0)));
        return h;
    }

    private static void theTwentyFifth() {
        Due.of("6, at the 25th by METHODS and PLACES: more than 24 INSTRUCTIONS 28 that have a SHAPE.");
        Due.due("24", making(18, 6).build(), 25);
        faultOf("25", 6, 1, 19, making(18, 7));
        faultOf("26: at the 25th", 6, 1, 19, making(18, 8));
        faultOf("25, the first of METHOD 1 is the 16th", 6, 1, 28, making(15, 10));
        AnalysisHouse h = making(18, 6);
        Due.code(h, 0, I, 1, 28, 0);
        Due.code(h, 1, I, 1, 28, 0);
        Due.due("28s without a SHAPE do not count", h.build(), 25);
    }

    private static void behindAll() {
        Due.of("Behind all: 6,");
        AnalysisHouse h = making(18, 8);
        h.method(0, 0, 0, 0);
        Due.code(h, 2, I, 0, 4, 0, 4, 0, END, 0);
        faultOf("2 of a METHOD behind the 25th", 2, 2, 2, h);
        h.wipe(2);
        faultOf("4 of a METHOD behind the 25th", 4, 2, 0, h);
        h.code(2, END, 0);
        faultOf("none of those: 6", 6, 1, 19, h);
        h.code(2, 35, 4);
        faultOf("1 behind the 25th", 1, 2, 1, h);
    }

    private static void numbersOfSites() {
        Due.of("SITES: 0 is OUTSIDE, 1, 2, .. those 28s, by METHODS and PLACES.");
        AnalysisHouse h = making(18, 6);
        h.build();
        Due.due("OUTSIDE has no METHOD", h.site(0, 6), Due.NONE);
        Due.due("OUTSIDE has no PLACE", h.site(0, 7), Due.NONE);
        for (int s = 1; s <= 24; s++) {
            Due.due("METHOD of SITE " + s, h.site(s, 6), s <= 18 ? 0 : 1);
            Due.due("PLACE of SITE " + s, h.site(s, 7), s <= 18 ? 3 * s - 2 : 3 * (s - 18) - 2);
        }
        Due.due("there is no 25th", h.site(25, 6), Due.NO);
        // a 28 without a SHAPE has no number: the next one has it
        h = new AnalysisHouse();
        h.method(0, 0, 0, 0);
        Due.code(h, 0, 19, 2, 28, 0, I, 1, 28, 0, END, 0);
        Due.due("one SITE", h.build(), 2);
        Due.due("its PLACE", h.site(1, 7), 3);
        // PLACE 2 is come to behind PLACE 5
        h = new AnalysisHouse();
        h.method(0, 0, 0, 0);
        Due.code(h, 0, 19, 4, I, 1, 28, 0, END, 0, I, 1, 28, 0, 4, 0, 19, 1);
        Due.due("two SITES", h.build(), 3);
        Due.due("by PLACES, not by when they are come to", h.site(1, 7), 2);
        Due.due("then the second", h.site(2, 7), 5);
        h = told(I, 1, 28, 0, END, 0);
        Due.due("one in METHOD 0", h.build(), 2);
        h.wipe(0);
        h.code(0, END, 0);
        Due.due("none any more", h.build(), 1);
        Due.due("no SITE 1", h.site(1, 6), Due.NO);
    }
}
