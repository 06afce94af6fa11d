import java.nio.charset.StandardCharsets;
import java.nio.file.Files;
import java.nio.file.Path;

/** What the tests that are worked out by hand share: they tell what is due and count what is not. */
final class Due {
    static final int NONE = AnalysisHouse.NONE;
    static final long NO = AnalysisHouse.NO;
    static final int MIN = Integer.MIN_VALUE;
    static final int MAX = Integer.MAX_VALUE;
    private static int wrong;
    private static int asked;
    private static int sentences;
    private static String document;
    private static String sentence = "";

    private Due() {
    }

    static void due(String what, long got, long want) {
        asked++;
        if (got != want) {
            wrong++;
            System.out.println(sentence + what + " answered " + got + ", due is " + want);
        }
    }

    /**
     * What is due from here on is due by this sentence of the document. Where the document does not have it word by word
     * that is told, but is not wrong of the class.
     */
    static void of(String words) {
        sentences++;
        sentence = "'" + words + "': ";
        if (!document().isEmpty() && !document().contains(words)) {
            System.out.println("The document does not say " + sentence + "look at its tests");
        }
    }

    private static String document() {
        if (document == null) {
            try {
                String text = Files.readString(Path.of("../shared/DOC.md"), StandardCharsets.UTF_8);
                document = text.replaceAll("\\s+", " ");
            } catch (java.io.IOException e) {
                document = "";
            }
        }
        return document;
    }

    static void due(String what, boolean got, boolean want) {
        due(what, got ? 1 : 0, want ? 1 : 0);
    }

    /** Adds INSTRUCTIONS: op, a, op, a, ... */
    static void code(AnalysisHouse house, int m, int... lines) {
        for (int i = 0; i + 1 < lines.length; i += 2) {
            house.code(m, lines[i], lines[i + 1]);
        }
    }

    /** A house with one METHOD of this CODE, built. */
    static AnalysisHouse built(int arguments, int locals, int kinds, int result, int... lines) {
        AnalysisHouse house = new AnalysisHouse();
        house.method(arguments, locals, kinds, result);
        code(house, 0, lines);
        int sites = house.build();
        if (sites < 0) {
            due("build() of a test's METHOD", sites, 1);
        }
        return house;
    }

    /** A house with one METHOD of this CODE, built and analysed with it as the ROOT. */
    static AnalysisHouse analysed(int arguments, int locals, int kinds, int result, int... lines) {
        AnalysisHouse house = built(arguments, locals, kinds, result, lines);
        house.analyze(1);
        return house;
    }

    static void span(String what, AnalysisHouse house, int[] at, long low, long high, long stride) {
        due(what + " low", house.state(at[0], at[1], at[2], 0), low);
        due(what + " high", house.state(at[0], at[1], at[2], 1), high);
        due(what + " stride", house.state(at[0], at[1], at[2], 2), stride);
    }

    static void set(String what, AnalysisHouse house, int[] at, long sites, boolean orNull) {
        due(what + " sites", house.state(at[0], at[1], at[2], 3), sites);
        due(what + " null", house.state(at[0], at[1], at[2], 4), orNull ? 1 : 0);
    }

    static int[] at(int m, int place, int slot) {
        return new int[] {m, place, slot};
    }

    static void end(String test) {
        String by = sentences > 0 ? " by " + sentences + " sentences" : "";
        System.out.println(test + ": " + asked + " answers" + by + ", " + wrong + " wrong");
        if (wrong > 0) {
            System.exit(1);
        }
    }
}
