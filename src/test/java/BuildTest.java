/** Promises 5 and 6: builds, their FAULTS and where they are. */
public final class BuildTest {
    public static void main(String[] args) {
        operands();
        takes();
        depths();
        ends();
        otherShapes();
        sites();
        order();
        Due.end("BuildTest");
    }

    /** METHOD 0 returns; METHOD 1 has two LOCALS (1 an ARRAY), no RESULT, and this CODE. */
    private static AnalysisHouse second(int... lines) {
        AnalysisHouse h = new AnalysisHouse();
        h.method(0, 0, 0, 0);
        h.code(0, 33, 0);
        h.method(0, 2, 2, 0);
        Due.code(h, 1, lines);
        return h;
    }

    private static void fault(String what, int number, int place, int... lines) {
        faultOf(what, number, 1, place, second(lines));
    }

    private static void faultOf(String what, int number, int m, int place, AnalysisHouse h) {
        Due.due(what + ": build", h.build(), -number);
        Due.due(what + ": METHOD", h.faultAt(0), m);
        Due.due(what + ": PLACE", h.faultAt(1), place);
        Due.due(what + ": another what", h.faultAt(2), Due.NONE);
        Due.due(what + ": what below", h.faultAt(-1), Due.NONE);
        Due.due(what + ": no BUILD", h.analyze(0), Due.NONE);
        Due.due(what + ": no SITES", h.site(0, 6), Due.NO);
    }

    private static void fine(String what, int sites, int... lines) {
        AnalysisHouse h = second(lines);
        Due.due(what + ": build", h.build(), sites);
        Due.due(what + ": METHOD", h.faultAt(0), Due.NONE);
        Due.due(what + ": PLACE", h.faultAt(1), Due.NONE);
    }

    private static void operands() {
        fault("1 of LOCAL 2", 1, 0, 1, 2, 33, 0);
        fault("1 of LOCAL -1", 1, 0, 1, -1, 33, 0);
        fault("2 of LOCAL 2", 1, 1, 0, 0, 2, 2, 33, 0);
        fault("2 of LOCAL -1", 1, 1, 0, 0, 2, -1, 33, 0);
        for (int op = 19; op <= 27; op++) {
            fault(op + " to the end", 1, 1, 33, 0, op, 2);
            fault(op + " to -1", 1, 1, 33, 0, op, -1);
            fine(op + " to itself, without a SHAPE", 1, 33, 0, op, 1);
        }
        fault("32 of METHOD 2", 1, 0, 32, 2, 33, 0);
        fault("32 of METHOD -1", 1, 0, 32, -1, 33, 0);
        fault("34 of FIELD 4", 1, 0, 34, 4, 4, 0, 33, 0);
        fault("34 of FIELD -1", 1, 0, 34, -1, 4, 0, 33, 0);
        fault("35 of FIELD 4", 1, 1, 0, 0, 35, 4, 33, 0);
        fault("35 of FIELD -1", 1, 1, 0, 0, 35, -1, 33, 0);
        fault("without a SHAPE, too", 1, 1, 33, 0, 34, 9);
        fine("all that can be", 1, 1, 1, 4, 0, 0, 9, 2, 0, 34, 3, 35, 0, 32, 0, 33, 0);
        fine("others have no operand", 1, 3, 99, 4, -99, 0, 77, 5, 66, 7, 55, 4, 44, 33, 1000);
    }

    private static void takes() {
        int i = 0;
        int r = 3;
        for (int op : new int[] {4, 5, 18, 26, 27, 28, 29, 35}) {
            fault(op + " of nothing", 2, 0, op, 0, 33, 0);
        }
        for (int op = 7; op <= 17; op++) {
            fault(op + " of one", 2, 1, 0, 1, op, 0, 33, 0);
            fault(op + " of r i", 2, 2, r, 1, i, 1, op, 0, 33, 0);
            fault(op + " of i r", 2, 2, i, 1, r, 1, op, 0, 33, 0);
            fine(op + " of i i", 1, i, 1, i, 1, op, 0, 33, 0);
        }
        for (int op = 20; op <= 25; op++) {
            fault(op + " of one", 2, 1, 0, 1, op, 0, 33, 0);
            fault(op + " of r i", 2, 2, r, 1, i, 1, op, 0, 33, 0);
            fault(op + " of i r", 2, 2, i, 1, r, 1, op, 0, 33, 0);
            fine(op + " of i i", 1, i, 1, i, 1, op, 3, 33, 0);
        }
        for (int op : new int[] {18, 28, 35}) {
            fault(op + " of an ARRAY", 2, 1, r, 0, op, 0, 33, 0);
        }
        for (int op : new int[] {26, 27, 29}) {
            fault(op + " of an INT", 2, 1, i, 0, op, 0, 33, 0);
        }
        fine("4 of either", 1, i, 0, 4, 0, r, 0, 4, 0, 33, 0);
        fine("5 of either", 1, i, 0, 5, 0, 7, 0, r, 0, 5, 0, 4, 0, 29, 0, 33, 0);
        fault("6 of one", 2, 1, i, 0, 6, 0, 33, 0);
        fine("6 turns KINDS", 1, i, 0, r, 0, 6, 0, 18, 0, 4, 0, 29, 0, 33, 0);
        fault("6 turns KINDS: no ARRAY on top", 2, 3, i, 0, r, 0, 6, 0, 29, 0, 33, 0);
        fault("5 keeps KINDS", 2, 3, r, 0, 5, 0, 4, 0, 18, 0, 33, 0);
        fault("2 of an ARRAY to an INT", 2, 1, r, 0, 2, 0, 33, 0);
        fault("2 of an INT to an ARRAY", 2, 1, i, 0, 2, 1, 33, 0);
        fault("2 of nothing", 2, 0, 2, 1, 33, 0);
        fault("1 gives an ARRAY", 2, 1, 1, 1, 18, 0, 33, 0);
        fault("1 gives an INT", 2, 1, 1, 0, 29, 0, 33, 0);
        fault("30 of i i", 2, 2, i, 0, i, 0, 30, 0, 33, 0);
        fault("30 of r r", 2, 2, r, 0, r, 0, 30, 0, 33, 0);
        fault("31 of i i i", 2, 3, i, 0, i, 0, i, 0, 31, 0, 33, 0);
        fault("31 of r i r", 2, 3, r, 0, i, 0, r, 0, 31, 0, 33, 0);
        fault("31 of i i on a bare stack", 2, 2, i, 0, i, 0, 31, 0, 33, 0);
        fault("30 gives an INT", 2, 3, r, 0, i, 0, 30, 0, 29, 0, 33, 0);
        fault("29 gives an INT", 2, 2, r, 0, 29, 0, 29, 0, 33, 0);
        fault("28 gives an ARRAY", 2, 2, i, 0, 28, 0, 18, 0, 33, 0);
        fault("34 gives an INT", 2, 1, 34, 0, 29, 0, 33, 0);
        callsTake();
    }

    private static AnalysisHouse caller(int result, int... lines) {
        AnalysisHouse h = new AnalysisHouse();
        h.method(0, 0, 0, 1);
        Due.code(h, 0, lines);
        h.method(2, 3, 6, result);
        Due.code(h, 1, result == 1 ? 0 : 3, 0, 33, 0);
        return h;
    }

    private static void callsTake() {
        Due.due("32 takes i r", caller(1, 0, 1, 3, 0, 32, 1, 33, 0).build(), 1);
        faultOf("32 takes r i", 2, 0, 2, caller(1, 3, 0, 0, 1, 32, 1, 33, 0));
        faultOf("32 takes one only", 2, 0, 1, caller(1, 3, 0, 32, 1, 33, 0));
        faultOf("32 gives an ARRAY", 2, 0, 3, caller(2, 0, 1, 3, 0, 32, 1, 33, 0));
        Due.due("32 gives an ARRAY, used so", caller(2, 0, 1, 3, 0, 32, 1, 29, 0, 33, 0).build(), 1);
        Due.due("33 of an ARRAY", Due.built(0, 0, 0, 2, 3, 0, 33, 0).faultAt(0), Due.NONE);
        AnalysisHouse h = new AnalysisHouse();
        h.method(0, 0, 0, 2);
        Due.code(h, 0, 0, 0, 33, 0);
        faultOf("33 of an INT for an ARRAY", 2, 0, 1, h);
        h = new AnalysisHouse();
        h.method(0, 0, 0, 1);
        Due.code(h, 0, 3, 0, 33, 0);
        faultOf("33 of an ARRAY for an INT", 2, 0, 1, h);
        h = new AnalysisHouse();
        h.method(0, 0, 0, 1);
        Due.code(h, 0, 33, 0);
        faultOf("33 of nothing", 2, 0, 0, h);
        h = new AnalysisHouse();
        h.method(0, 0, 0, 1);
        Due.code(h, 0, 3, 0, 0, 1, 33, 0);
        Due.due("33 may leave others", h.build(), 1);
    }

    private static void depths() {
        int[] nine = {0, 1, 0, 1, 0, 1, 0, 1, 0, 1, 0, 1, 0, 1, 0, 1, 0, 1, 33, 0};
        fault("a 9th on the stack", 3, 8, nine);
        int[] eight = {0, 1, 0, 1, 0, 1, 0, 1, 0, 1, 0, 1, 0, 1, 0, 1, 33, 0};
        fine("8 on the stack", 1, eight);
        int[] twice = {0, 1, 0, 1, 0, 1, 0, 1, 0, 1, 0, 1, 0, 1, 0, 1, 5, 0, 33, 0};
        fault("5 makes 9", 3, 8, twice);
        int[] swapped = {0, 1, 0, 1, 0, 1, 0, 1, 0, 1, 0, 1, 0, 1, 0, 1, 6, 0, 33, 0};
        fine("6 keeps 8", 1, swapped);
        int[] negated = {0, 1, 0, 1, 0, 1, 0, 1, 0, 1, 0, 1, 0, 1, 0, 1, 18, 0, 33, 0};
        fine("18 keeps 8", 1, negated);
        fault("3 before 4", 3, 8, java.util.Arrays.copyOf(nine, 18));
        int[] loop = {0, 1, 19, 0};
        fault("a loop that piles up has another SHAPE", 5, 1, loop);
    }

    private static void ends() {
        AnalysisHouse h = new AnalysisHouse();
        h.method(0, 0, 0, 0);
        faultOf("no CODE", 4, 0, 0, h);
        fault("runs off the end", 4, 0, 0, 1);
        fault("a condition at the end", 4, 2, 0, 1, 0, 1, 20, 0);
        fine("a jump at the end", 1, 0, 1, 4, 0, 19, 0);
        fine("33 at the end", 1, 33, 0);
        fine("runs off where none comes", 1, 33, 0, 0, 1);
        fault("2 before 4", 2, 0, 4, 0);
    }

    private static void otherShapes() {
        fault("another depth at a", 5, 4, 0, 1, 0, 1, 0, 1, 0, 1, 20, 0, 33, 0);
        fault("another depth next", 5, 5, 0, 1, 0, 2, 20, 6, 0, 3, 19, 5, 0, 9, 33, 0);
        fault("another KIND", 5, 5, 0, 1, 0, 2, 20, 5, 0, 3, 19, 6, 3, 0, 19, 6, 33, 0);
        fine("the same SHAPE", 1, 0, 1, 0, 2, 20, 5, 0, 3, 19, 6, 0, 4, 33, 0);
        // at PLACE 2 the next PLACE is 3 = a: both ways have the same SHAPE
        fine("both ways are one", 1, 0, 1, 0, 2, 20, 3, 33, 0);
        // next (the end of the CODE) before a (another SHAPE)
        fault("next before a", 4, 3, 0, 1, 0, 1, 0, 1, 20, 0);
    }

    private static void sites() {
        fine("one SITE", 2, 0, 1, 28, 0, 33, 0);
        fine("a 28 that none comes to", 1, 33, 0, 28, 0);
        AnalysisHouse h = new AnalysisHouse();
        h.method(0, 0, 0, 0);
        h.method(0, 0, 0, 0);
        for (int k = 0; k < 12; k++) {
            Due.code(h, 0, 0, k, 28, 0, 4, 0);
            Due.code(h, 1, 0, k, 28, 0, 4, 0);
        }
        Due.code(h, 0, 33, 0, 0, 1, 28, 0);
        Due.code(h, 1, 33, 0);
        Due.due("24 SITES and OUTSIDE", h.build(), 25);
        Due.due("SITE 24: METHOD", h.site(24, 6), 1);
        Due.due("SITE 24: PLACE", h.site(24, 7), 34);
        Due.due("SITE 13: METHOD", h.site(13, 6), 1);
        Due.due("SITE 13: PLACE", h.site(13, 7), 1);
        Due.due("SITE 25", h.site(25, 6), Due.NO);
        h.wipe(0);
        Due.code(h, 0, 0, 1, 28, 0, 4, 0);
        for (int k = 0; k < 12; k++) {
            Due.code(h, 0, 0, k, 28, 0, 4, 0);
        }
        Due.code(h, 0, 33, 0);
        faultOf("a 25th", 6, 1, 34, h);
        h.wipe(1);
        Due.code(h, 1, 33, 0);
        Due.due("13 SITES", h.build(), 14);
        Due.due("no FAULT any more", h.faultAt(0), Due.NONE);
    }

    private static void order() {
        AnalysisHouse h = new AnalysisHouse();
        h.method(0, 0, 0, 0);
        h.method(0, 0, 0, 0);
        h.method(0, 0, 0, 0);
        Due.code(h, 1, 4, 0, 33, 0);
        Due.code(h, 2, 33, 0, 33, 0, 34, 4, 34, 5);
        faultOf("1 before all, of all METHODS", 1, 2, 2, h);
        h.wipe(2);
        h.code(2, 33, 0);
        faultOf("then METHOD by METHOD", 4, 0, 0, h);
        h.code(0, 33, 0);
        faultOf("then the next", 2, 1, 0, h);
        Due.due("the FAULT stays told when CODE comes", h.code(1, 33, 0), 2);
        Due.due("its METHOD", h.faultAt(0), 1);
        Due.due("its PLACE", h.faultAt(1), 0);
        h.wipe(1);
        h.code(1, 33, 0);
        Due.due("built", h.build(), 1);
        Due.due("none", h.faultAt(1), Due.NONE);
        // PLACES 3 and 4 have their SHAPES at once, and both have the FAULT
        fault("the least PLACE first", 2, 3, 0, 1, 0, 1, 20, 4, 29, 0, 29, 0);
        fault("what lies behind a jump back", 2, 1, 19, 2, 4, 0, 0, 0, 0, 0, 20, 1, 33, 0);
    }
}
