/** Promises 1 to 6, sentence by sentence: what is told, what is refused, and what is taken away by it. */
public final class TellingEdgesTest {
    private static final int MIN = Integer.MIN_VALUE;
    private static final int MAX = Integer.MAX_VALUE;

    public static void main(String[] args) {
        newObject();
        newObjectBuilds();
        aMethodMore();
        eightAreThere();
        argumentsOfMethods();
        localsOfMethods();
        kindsOfMethods();
        resultsOfMethods();
        anInstructionMore();
        instructionsRefused();
        sixtyAreThere();
        wipes();
        builds();
        faults();
        refusedChangesNothing();
        takenAway();
        ownBuild();
        Due.end("TellingEdgesTest");
    }

    private static void newObject() {
        Due.of("No METHODS, no arguments.");
        AnalysisHouse h = new AnalysisHouse();
        Due.due("arguments", h.forget(), 0);
        Due.due("code", h.code(0, 33, 0), Due.NONE);
        Due.due("wipe", h.wipe(0), Due.NONE);
        Due.due("run", h.run(0, 1), Due.NONE);
        Due.due("fill", h.fill(0, 0, 1), Due.NONE);
        Due.due("faultAt 0", h.faultAt(0), Due.NONE);
        Due.due("faultAt 1", h.faultAt(1), Due.NONE);
        hasNoCertificate("new", h);
        hasNoBuild("new", h);
        for (int what = 0; what < 8; what++) {
            Due.due("ran " + what, h.ran(what), 0);
        }
        Due.due("outside", h.outside(), Due.NONE);
    }

    private static void newObjectBuilds() {
        Due.of("A BUILD: how many SITES (with OUTSIDE); less the FAULT.");
        AnalysisHouse h = new AnalysisHouse();
        Due.due("no METHODS: OUTSIDE alone", h.build(), 1);
        Due.due("no ROOTS", h.analyze(0), 1);
        Due.due("it holds", h.check(), 1);
        Due.due("no METHOD 0 to be a ROOT", h.analyze(1), Due.NONE);
        Due.due("no METHOD 0 to run", h.run(0, 1), Due.NONE);
        Due.due("no METHOD 0 to be reached", h.reached(0, 0), false);
        Due.due("no METHOD 0 to give back", h.result(0, 5), Due.NO);
    }

    private static void aMethodMore() {
        Due.of("A METHOD more, without CODE: its number.");
        AnalysisHouse h = new AnalysisHouse();
        for (int m = 0; m < 8; m++) {
            Due.due("its number", h.method(0, 0, 0, 0), m);
            Due.due("without CODE", h.wipe(m), 0);
            Due.due("no other", h.wipe(m + 1), Due.NONE);
        }
    }

    private static void eightAreThere() {
        Due.of("NONE: 8 are there,");
        AnalysisHouse h = new AnalysisHouse();
        for (int m = 0; m < 8; m++) {
            h.method(0, 0, 0, 0);
        }
        Due.due("a 9th", h.method(0, 0, 0, 0), Due.NONE);
        Due.due("a 9th, again", h.method(3, 6, 63, 2), Due.NONE);
        Due.due("METHOD 8", h.code(8, 33, 0), Due.NONE);
        Due.due("METHOD 7", h.code(7, 33, 0), 0);
    }

    private static void method(String what, boolean fine, int arguments, int locals, int kinds, int result) {
        Due.due(what, new AnalysisHouse().method(arguments, locals, kinds, result), fine ? 0 : Due.NONE);
    }

    private static void argumentsOfMethods() {
        Due.of("arguments not 0 .. 3,");
        method("-1", false, -1, 6, 0, 0);
        method("0", true, 0, 6, 0, 0);
        method("3", true, 3, 6, 0, 0);
        method("4", false, 4, 6, 0, 0);
        method("the least", false, MIN, 6, 0, 0);
        method("the greatest", false, MAX, 6, 0, 0);
    }

    private static void localsOfMethods() {
        Due.of("locals not arguments .. 6,");
        for (int arguments = 0; arguments <= 3; arguments++) {
            method("one less than arguments", false, arguments, arguments - 1, 0, 0);
            method("as many as arguments", true, arguments, arguments, 0, 0);
            method("6", true, arguments, 6, 0, 0);
            method("7", false, arguments, 7, 0, 0);
            method("the least", false, arguments, MIN, 0, 0);
            method("the greatest", false, arguments, MAX, 0, 0);
        }
    }

    private static void kindsOfMethods() {
        Due.of("kinds (bit i: LOCAL i is of KIND A) not 0 .. 2^locals less 1,");
        for (int locals = 0; locals <= 6; locals++) {
            method("-1", false, 0, locals, -1, 0);
            method("0", true, 0, locals, 0, 0);
            method("2^locals less 1", true, 0, locals, (1 << locals) - 1, 0);
            method("2^locals", false, 0, locals, 1 << locals, 0);
            method("the least", false, 0, locals, MIN, 0);
            method("the greatest", false, 0, locals, MAX, 0);
        }
        for (int local = 0; local < 6; local++) {
            AnalysisHouse h = Due.analysed(0, 6, 1 << local, 0, 33, 0);
            for (int other = 0; other < 6; other++) {
                Due.due("whether it is an ARRAY", h.state(0, 0, other, 4) == 1, other == local);
                Due.due("whether it is an INT", h.state(0, 0, other, 0) == 0, other != local);
            }
        }
    }

    private static void resultsOfMethods() {
        Due.of("result not 0 .. 2.");
        method("-1", false, 0, 0, 0, -1);
        method("0", true, 0, 0, 0, 0);
        method("1", true, 0, 0, 0, 1);
        method("2", true, 0, 0, 0, 2);
        method("3", false, 0, 0, 0, 3);
        method("the least", false, 0, 0, 0, MIN);
        method("the greatest", false, 0, 0, 0, MAX);
    }

    private static void anInstructionMore() {
        Due.of("An INSTRUCTION more: its PLACE.");
        AnalysisHouse h = new AnalysisHouse();
        h.method(0, 0, 0, 0);
        h.method(0, 0, 0, 0);
        for (int place = 0; place < 36; place++) {
            Due.due("METHOD 0", h.code(0, place, MIN), place);
            Due.due("METHOD 1", h.code(1, 35 - place, MAX), place);
        }
    }

    private static void instructionsRefused() {
        Due.of("NONE: no such METHOD, op not 0 .. 35,");
        AnalysisHouse h = new AnalysisHouse();
        h.method(0, 0, 0, 0);
        h.method(0, 0, 0, 0);
        for (int none : new int[] {-1, 2, 7, 8, MIN, MAX}) {
            Due.due("METHOD " + none, h.code(none, 33, 0), Due.NONE);
        }
        for (int none : new int[] {-1, 36, MIN, MAX}) {
            Due.due("op " + none, h.code(0, none, 0), Due.NONE);
        }
        Due.due("none was added", h.wipe(0), 0);
        Due.due("op 0", h.code(0, 0, 0), 0);
        Due.due("op 35", h.code(0, 35, 0), 1);
    }

    private static void sixtyAreThere() {
        Due.of("60 are there.");
        AnalysisHouse h = new AnalysisHouse();
        h.method(0, 0, 0, 0);
        h.method(0, 0, 0, 0);
        for (int place = 0; place < 60; place++) {
            Due.due("PLACE", h.code(0, 0, 0), place);
        }
        Due.due("a 61st", h.code(0, 0, 0), Due.NONE);
        Due.due("another METHOD has room", h.code(1, 33, 0), 0);
        Due.due("60 were there", h.wipe(0), 60);
        Due.due("there is room again", h.code(0, 0, 0), 0);
    }

    private static void wipes() {
        Due.of("The CODE of a METHOD is gone: how many INSTRUCTIONS it had. NONE: none such.");
        AnalysisHouse h = new AnalysisHouse();
        h.method(0, 0, 0, 1);
        h.method(0, 0, 0, 1);
        Due.code(h, 0, 0, 5, 33, 0);
        Due.code(h, 1, 0, 6, 18, 0, 33, 0);
        for (int none : new int[] {-1, 2, 8, MIN, MAX}) {
            Due.due("METHOD " + none, h.wipe(none), Due.NONE);
        }
        Due.due("METHOD 0", h.wipe(0), 2);
        Due.due("METHOD 0 without CODE", h.wipe(0), 0);
        Due.due("no CODE to build", h.build(), -4);
        Due.code(h, 0, 0, 8, 33, 0);
        h.build();
        h.run(0, 9);
        Due.due("its new CODE", h.ran(0), 8);
        h.run(1, 9);
        Due.due("METHOD 1 has its CODE", h.ran(0), -6);
        Due.due("METHOD 1", h.wipe(1), 3);
    }

    private static void builds() {
        Due.of("A BUILD: how many SITES (with OUTSIDE); less the FAULT.");
        AnalysisHouse h = Due.built(0, 0, 0, 0, 0, 1, 28, 0, 33, 0);
        Due.due("one SITE", h.build(), 2);
        Due.due("again", h.build(), 2);
        int[][] faulty = {{34, 4}, {4, 0}, Lines.times(9, 0, 1), {0, 1}, {0, 1, 19, 0}};
        for (int fault = 1; fault <= 5; fault++) {
            h.wipe(0);
            Due.code(h, 0, faulty[fault - 1]);
            Due.due("FAULT " + fault, h.build(), -fault);
        }
        h.method(0, 0, 0, 0);
        h.wipe(0);
        Due.code(h, 0, Lines.join(Lines.times(19, 0, 1, 28, 0, 4, 0), Lines.of(33, 0)));
        Due.code(h, 1, Lines.join(Lines.times(6, 0, 1, 28, 0, 4, 0), Lines.of(33, 0)));
        Due.due("FAULT 6", h.build(), -6);
    }

    private static void faults() {
        Due.of("Of the latest build()'s FAULT: 0 the METHOD, 1 the PLACE; NONE: it had none, another what. (Of 6 of the "
            + "25th.)");
        AnalysisHouse h = new AnalysisHouse();
        Due.due("no build()", h.faultAt(0), Due.NONE);
        h.method(0, 0, 0, 0);
        h.method(0, 0, 0, 0);
        Due.code(h, 0, 33, 0);
        Due.code(h, 1, 19, 2, 33, 0, 4, 0);
        h.build();
        Due.due("METHOD", h.faultAt(0), 1);
        Due.due("PLACE", h.faultAt(1), 2);
        for (int other : new int[] {-1, 2, 3, MIN, MAX}) {
            Due.due("what " + other, h.faultAt(other), Due.NONE);
        }
        h.code(1, 33, 0);
        Due.due("it is of the latest build(), whatever was told since", h.faultAt(1), 2);
        h.wipe(1);
        h.code(1, 33, 0);
        h.build();
        for (int what = -1; what <= 2; what++) {
            Due.due("it had none", h.faultAt(what), Due.NONE);
        }
        h.wipe(0);
        h.build();
        Due.due("METHOD 0 is told as 0", h.faultAt(0), 0);
        Due.due("PLACE 0 is told as 0", h.faultAt(1), 0);
        for (int m = 0; m < 2; m++) {
            h.wipe(m);
            Due.code(h, m, Lines.join(Lines.times(14, 0, 1, 28, 0, 4, 0), Lines.of(33, 0)));
        }
        h.build();
        Due.due("6: METHOD of the 25th", h.faultAt(0), 1);
        Due.due("6: PLACE of the 25th", h.faultAt(1), 31);
    }

    /** A house with a BUILD of two SITES, a CERTIFICATE, a run and an argument. */
    private static AnalysisHouse full() {
        AnalysisHouse h = new AnalysisHouse();
        h.method(1, 2, 2, 1);
        Due.code(h, 0, 0, 3, 28, 0, 2, 1, 0, 4, 35, 0, 1, 0, 0, 5, 10, 0, 33, 0);
        h.build();
        h.analyze(1);
        h.argument(0, 50);
        h.run(0, 99);
        return h;
    }

    private static void refusedChangesNothing() {
        Due.of("What is refused changes nothing.");
        AnalysisHouse h = full();
        h.method(4, 6, 0, 0);
        h.method(0, 7, 0, 0);
        h.method(0, 0, 1, 0);
        h.method(0, 0, 0, 3);
        h.code(1, 33, 0);
        h.code(0, 36, 0);
        h.wipe(1);
        h.analyze(2);
        h.analyze(-1);
        h.plant(0, 0, 0, 1, 0);
        h.plant(0, 0, 1, 0, 1);
        h.forgetState(0, 9);
        h.argument(3, 0);
        h.argument(1, 201);
        h.fill(0, 0, 9);
        h.run(0, -1);
        h.run(1, 5);
        Due.due("no METHOD more", h.wipe(1), Due.NONE);
        Due.due("reached", h.reached(0, 8), true);
        Due.due("check", h.check(), 1);
        Due.due("its ROOTS", h.result(0, 5), 1);
        Due.due("site", h.site(1, 1), 3);
        Due.due("ran", h.ran(0), 10);
        Due.due("run", h.run(0, 99), 1);
        Due.due("arguments", h.forget(), 1);
        for (int m = 1; m < 8; m++) {
            Due.due("METHOD", h.method(0, 0, 0, 0), m);
            h.code(m, 33, 0);
        }
        h.build();
        h.analyze(1);
        h.method(0, 0, 0, 0);
        Due.due("a 9th METHOD", h.check(), 1);
        Due.due("its CODE has 9 INSTRUCTIONS", h.wipe(0), 9);
        Due.code(h, 0, Lines.join(Lines.of(0, 1), Lines.times(59, 33, 0)));
        h.build();
        h.analyze(1);
        h.code(0, 33, 0);
        Due.due("a 61st INSTRUCTION", h.check(), 1);
    }

    private static void hasNoCertificate(String by, AnalysisHouse h) {
        Due.due(by + ": reached", h.reached(0, 0), false);
        for (int what = 0; what < 6; what++) {
            Due.due(by + ": state", h.state(0, 0, 0, what), Due.NO);
            Due.due(by + ": OUTSIDE", h.site(0, what), Due.NO);
            Due.due(by + ": site", h.site(1, what), Due.NO);
            Due.due(by + ": field", h.field(0, what), Due.NO);
            Due.due(by + ": result", h.result(0, what), Due.NO);
        }
        for (int wrong = 1; wrong <= 4; wrong++) {
            Due.due(by + ": verdict", h.verdict(0, 0, wrong), Due.NONE);
        }
        for (int verdict = 0; verdict <= 3; verdict++) {
            Due.due(by + ": verdicts", h.verdicts(verdict), Due.NONE);
        }
        Due.due(by + ": plant", h.plant(0, 0, 0, 0, 0), false);
        Due.due(by + ": forgetState", h.forgetState(0, 0), false);
        Due.due(by + ": check", h.check(), Due.NONE);
    }

    private static void hasNoBuild(String by, AnalysisHouse h) {
        Due.due(by + ": METHOD of OUTSIDE", h.site(0, 6), Due.NO);
        Due.due(by + ": METHOD of a SITE", h.site(1, 6), Due.NO);
        Due.due(by + ": PLACE of a SITE", h.site(1, 7), Due.NO);
        Due.due(by + ": analyze", h.analyze(0), Due.NONE);
        Due.due(by + ": analyze", h.analyze(1), Due.NONE);
        Due.due(by + ": run", h.run(0, 99), Due.NONE);
    }

    private static void takenAway() {
        Due.of("code(), method(), wipe() that are not refused take BUILD and CERTIFICATE away,");
        AnalysisHouse h = full();
        h.code(0, 33, 0);
        hasNoCertificate("code", h);
        hasNoBuild("code", h);
        Due.due("code: ran stays", h.ran(0), 10);
        h = full();
        h.method(0, 0, 0, 0);
        hasNoCertificate("method", h);
        hasNoBuild("method", h);
        h = full();
        h.wipe(0);
        hasNoCertificate("wipe", h);
        hasNoBuild("wipe", h);
        h = new AnalysisHouse();
        h.build();
        h.method(0, 0, 0, 0);
        hasNoBuild("method, of none", h);
        Due.due("arguments stay", full().forget(), 1);
    }

    private static void ownBuild() {
        Due.of("so does build() (then there is its own BUILD, if it has no FAULT).");
        AnalysisHouse h = full();
        Due.due("build", h.build(), 2);
        hasNoCertificate("build", h);
        Due.due("its own BUILD: OUTSIDE", h.site(0, 6), Due.NONE);
        Due.due("its own BUILD: PLACE of a SITE", h.site(1, 7), 1);
        Due.due("its own BUILD: run", h.run(0, 99), 1);
        Due.due("its own BUILD: analyze", h.analyze(1), 2);
        Due.due("there is a CERTIFICATE again", h.check(), 1);
        h.method(0, 0, 0, 0);
        Due.due("a METHOD without CODE", h.build(), -4);
        hasNoCertificate("build with a FAULT", h);
        hasNoBuild("build with a FAULT", h);
        h.code(1, 33, 0);
        Due.due("built", h.build(), 2);
        Due.due("run", h.run(0, 99), 1);
    }
}
