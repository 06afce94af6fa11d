/** What the tests that are worked out by hand share: they tell what is due and count what is not. */
final class Due {
    static final int NONE = AnalysisHouse.NONE;
    static final long NO = AnalysisHouse.NO;
    static final int MIN = Integer.MIN_VALUE;
    static final int MAX = Integer.MAX_VALUE;
    private static int wrong;
    private static int asked;

    private Due() {
    }

    static void due(String what, long got, long want) {
        asked++;
        if (got != want) {
            wrong++;
            System.out.println(what + " answered " + got + ", due is " + want);
        }
    }

    static void due(String what, boolean got, boolean want) {
        due(what, got ? 1 : 0, want ? 1 : 0);
    }

    /** Adds INSTRUCTIONS: op, a, op, a, ... */
    static void code(AnalysisHouse house, int m, int... lines) {
        for (int i = 0; i + 1 < lines.length; i += 2) {
            house.code(m, lines[i], lines[i + 1]);
        }
    }

    /** A house with one METHOD of this CODE, built. */
    static AnalysisHouse built(int arguments, int locals, int kinds, int result, int... lines) {
        AnalysisHouse house = new AnalysisHouse();
        house.method(arguments, locals, kinds, result);
        code(house, 0, lines);
        int sites = house.build();
        if (sites < 0) {
            due("build() of a test's METHOD", sites, 1);
        }
        return house;
    }

    /** A house with one METHOD of this CODE, built and analysed with it as the ROOT. */
    static AnalysisHouse analysed(int arguments, int locals, int kinds, int result, int... lines) {
        AnalysisHouse house = built(arguments, locals, kinds, result, lines);
        house.analyze(1);
        return house;
    }

    static void span(String what, AnalysisHouse house, int[] at, long low, long high, long stride) {
        due(what + " low", house.state(at[0], at[1], at[2], 0), low);
        due(what + " high", house.state(at[0], at[1], at[2], 1), high);
        due(what + " stride", house.state(at[0], at[1], at[2], 2), stride);
    }

    static void set(String what, AnalysisHouse house, int[] at, long sites, boolean orNull) {
        due(what + " sites", house.state(at[0], at[1], at[2], 3), sites);
        due(what + " null", house.state(at[0], at[1], at[2], 4), orNull ? 1 : 0);
    }

    static int[] at(int m, int place, int slot) {
        return new int[] {m, place, slot};
    }

    static void end(String test) {
        System.out.println(test + ": " + asked + " answers, " + wrong + " wrong");
        if (wrong > 0) {
            System.exit(1);
        }
    }
}
