/** Promise 7: how many PASSES there are, where and how far what is told goes on, and what the last two walks narrow. */
public final class WideningTest {
    private static final int MIN = Integer.MIN_VALUE;
    private static final int MAX = Integer.MAX_VALUE;

    public static void main(String[] args) {
        loopTo100();
        upLedges();
        downLedges();
        fourthTime();
        fields();
        widePlaces();
        eachEndByItself();
        waysToWidePlaces();
        toItself();
        sitesAndResults();
        called();
        builtAgain();
        placeOne();
        Due.end("WideningTest");
    }

    /**
     * i = from; while (! (i op bound)) i = i + step. The head is PLACE 2, the comparison PLACE 4, the body PLACES 5
     * to 9, behind the loop PLACE 10.
     */
    private static AnalysisHouse loop(int from, int op, int bound, int step) {
        return Due.built(0, 1, 0, 0,
            0, from, 2, 0, 1, 0, 0, bound, op, 10, 1, 0, 0, step, 7, 0, 2, 0, 19, 2, 33, 0);
    }

    private static void loopTo100() {
        AnalysisHouse h = loop(0, 23, 100, 1);
        // 0; 0..1; 0..2; 0..3; the 4th change goes on to 127; once more for those behind; once without a change
        Due.due("PASSES", h.analyze(1), 6);
        Due.span("head", h, Due.at(0, 2, 0), 0, 100, 1);
        Due.span("one behind the head", h, Due.at(0, 3, 0), 0, 100, 1);
        Due.span("two behind the head: as it was widened", h, Due.at(0, 4, 0), 0, 127, 1);
        Due.span("body", h, Due.at(0, 5, 0), 0, 99, 1);
        Due.span("behind the loop", h, Due.at(0, 10, 0), 100, 127, 1);
        Due.due("check", h.check(), 1);
        Due.due("again the same", h.analyze(1), 6);
    }

    private static void wide(String what, AnalysisHouse h, long low, long high, long stride) {
        h.analyze(1);
        Due.span(what, h, Due.at(0, 4, 0), low, high, stride);
        Due.due(what + " check", h.check(), 1);
    }

    private static void upLedges() {
        wide("to 127", loop(0, 23, 127, 1), 0, 127, 1);
        wide("to 255", loop(0, 23, 128, 1), 0, 255, 1);
        wide("to 32767", loop(0, 23, 256, 1), 0, 32767, 1);
        wide("to 65535", loop(0, 23, 32768, 1), 0, 65535, 1);
        wide("to the greatest", loop(0, 23, 65536, 1), 0, MAX, 1);
        wide("from -50 to -1", loop(-50, 23, -1, 1), -50, -1, 1);
        wide("from -50 to 0", loop(-50, 23, 0, 1), -50, 0, 1);
        wide("from -50 to 1", loop(-50, 23, 1, 1), -50, 1, 1);
        wide("from -50 to 127", loop(-50, 23, 2, 1), -50, 127, 1);
        wide("from -500 to -128", loop(-500, 23, -130, 1), -500, -128, 1);
        wide("from -50000 to -32768", loop(-50000, 23, -40000, 1), -50000, -32768, 1);
        wide("by 3 to 126", loop(0, 23, 100, 3), 0, 126, 3);
        wide("from 1 by 3 to 127", loop(1, 23, 100, 3), 1, 127, 3);
        wide("from 2 by 3 to 125", loop(2, 23, 100, 3), 2, 125, 3);
        wide("by 100 to 32700", loop(0, 23, 5000, 100), 0, 32700, 100);
    }

    private static void downLedges() {
        wide("down to -128", loop(0, 25, -100, -1), -128, 0, 1);
        wide("down to -32768", loop(0, 25, -200, -1), -32768, 0, 1);
        wide("down to the least", loop(0, 25, -40000, -1), MIN, 0, 1);
        wide("down from 50 to 1", loop(50, 25, 1, -1), 1, 50, 1);
        wide("down from 50 to 0", loop(50, 25, 0, -1), 0, 50, 1);
        wide("down from 50 to -1", loop(50, 25, -1, -1), -1, 50, 1);
        wide("down from 200 to 127", loop(200, 25, 130, -1), 127, 200, 1);
        wide("down from 500 to 255", loop(500, 25, 300, -1), 255, 500, 1);
        wide("down from 50000 to 32767", loop(50000, 25, 40000, -1), 32767, 50000, 1);
        wide("down from 70000 to 65535", loop(70000, 25, 66000, -1), 65535, 70000, 1);
        wide("down by 3 to -126", loop(0, 25, -100, -3), -126, 0, 3);
        wide("down from 1 by 3 to -128", loop(1, 25, -100, -3), -128, 1, 3);
    }

    private static void fourthTime() {
        AnalysisHouse h = loop(0, 23, 3, 1);
        Due.due("three changes: PASSES", h.analyze(1), 5);
        Due.span("three changes", h, Due.at(0, 10, 0), 3, 3, 0);
        h = loop(0, 23, 4, 1);
        h.analyze(1);
        Due.span("four changes", h, Due.at(0, 10, 0), 4, 127, 1);
        h = loop(0, 23, 0, 1);
        Due.due("no change: PASSES", h.analyze(1), 2);
        Due.due("no change: body", h.reached(0, 5), false);
    }

    private static void field(String what, AnalysisHouse h, long low, long high, long stride) {
        Due.due(what + " low", h.field(0, 0), low);
        Due.due(what + " high", h.field(0, 1), high);
        Due.due(what + " stride", h.field(0, 2), stride);
    }

    private static void fields() {
        AnalysisHouse h = Due.built(0, 0, 0, 0, 34, 0, 0, 1, 7, 0, 35, 0, 33, 0);
        // 1, 2, 3 changes; then 127, 255, 32767, 65535, the greatest, ALL: 9 PASSES; one for those behind; the last
        Due.due("FIELD and 1: PASSES", h.analyze(1), 11);
        field("FIELD and 1", h, MIN, MAX, 1);
        h = Due.built(0, 0, 0, 0, 34, 0, 0, 4, 7, 0, 35, 0, 33, 0);
        Due.due("FIELD and 4: PASSES", h.analyze(1), 11);
        field("FIELD and 4", h, MIN, MAX - 3, 4);
        // FIELD = (FIELD + 1) & 201: it goes to 255, and is narrowed to 201 by the first of the last two walks
        h = Due.built(0, 0, 0, 0, 34, 0, 0, 1, 7, 0, 0, 201, 12, 0, 35, 0, 33, 0);
        h.analyze(1);
        field("FIELD masked", h, 0, 201, 1);
        Due.due("check", h.check(), 1);
    }

    /** LOCAL 1 is 1000 times i at PLACE 9, to which only a 19 without a SHAPE may go. */
    private static AnalysisHouse thousands(int op, int a) {
        AnalysisHouse h = Due.built(0, 2, 0, 0,
            0, 0, 2, 0, 1, 0, 0, 100, 23, 14, 1, 0, 0, 1000, 9, 0, 2, 1,
            1, 0, 0, 1, 7, 0, 2, 0, 19, 2, 33, 0, op, a);
        h.analyze(1);
        return h;
    }

    private static void widePlaces() {
        Due.span("not wide", thousands(33, 0), Due.at(0, 11, 1), 0, 99000, 1000);
        Due.span("wide by a 19 without a SHAPE", thousands(19, 9), Due.at(0, 11, 1), 0, 2147483000L, 1000);
        Due.span("wide by a 20 without a SHAPE", thousands(20, 9), Due.at(0, 11, 1), 0, 2147483000L, 1000);
        Due.span("wide by a 27 without a SHAPE", thousands(27, 9), Due.at(0, 11, 1), 0, 2147483000L, 1000);
        Due.span("28 is no jump", thousands(28, 9), Due.at(0, 11, 1), 0, 99000, 1000);
        Due.span("18 is no jump", thousands(18, 9), Due.at(0, 11, 1), 0, 99000, 1000);
        Due.span("a jump to another PLACE", thousands(19, 10), Due.at(0, 11, 1), 0, 99000, 1000);
    }

    /** i goes up by 1, k down by 2, z stays: each end that is another one goes on, no other. */
    private static void eachEndByItself() {
        AnalysisHouse h = Due.built(0, 3, 0, 0,
            0, 7, 2, 2, 1, 0, 0, 50, 23, 14,
            1, 0, 0, 1, 7, 0, 2, 0,
            1, 1, 0, 2, 8, 0, 2, 1, 19, 2, 33, 0);
        h.analyze(1);
        Due.span("i", h, Due.at(0, 4, 0), 0, 127, 1);
        Due.span("k", h, Due.at(0, 4, 1), MIN, MAX - 1, 2);
        Due.span("z", h, Due.at(0, 4, 2), 7, 7, 0);
    }

    /** i = 0 .. 99, and in the loop an ARRAY is asked for null: PLACE 7 is next behind the 26 or 27, PLACE 8 is its a. */
    private static AnalysisHouse asked(int ask, int op, int a) {
        AnalysisHouse h = Due.built(1, 2, 1, 0,
            0, 0, 2, 1, 1, 1, 0, 100, 23, 13, 1, 0, ask, 8, 19, 8,
            1, 1, 0, 1, 7, 0, 2, 1, 19, 2, 33, 0, op, a);
        h.analyze(1);
        return h;
    }

    /** A wide PLACE is one whichever way it is come to; two PLACES behind it that is seen. */
    private static void waysToWidePlaces() {
        Due.span("next of a comparison", thousands(33, 0), Due.at(0, 7, 0), 0, 99, 1);
        Due.span("next of a comparison, wide", thousands(19, 5), Due.at(0, 7, 0), 0, 127, 1);
        Due.span("behind others, wide", thousands(19, 6), Due.at(0, 8, 0), 0, 127, 1);
        for (int ask = 26; ask <= 27; ask++) {
            Due.span("next of " + ask, asked(ask, 33, 0), Due.at(0, 9, 1), 0, 99, 1);
            Due.span("next of " + ask + ", wide", asked(ask, 19, 7), Due.at(0, 9, 1), 0, 127, 1);
            Due.span("a of " + ask, asked(ask, 33, 0), Due.at(0, 10, 1), 0, 99, 1);
            Due.span("a of " + ask + ", wide", asked(ask, 21, 8), Due.at(0, 10, 1), 0, 127, 1);
        }
    }

    /** PLACE 17 goes to itself, so it is wide, and what it was widened to comes to it again and again. */
    private static void toItself() {
        AnalysisHouse h = Due.analysed(1, 3, 0, 0,
            0, 0, 2, 1, 1, 1, 0, 100, 23, 18, 1, 1, 0, 1000, 9, 0, 2, 2,
            1, 0, 0, 7, 20, 17, 1, 1, 0, 1, 7, 0, 2, 1, 19, 2, 19, 17, 33, 0);
        Due.span("a 19 to itself", h, Due.at(0, 17, 2), 0, 2147483000L, 1000);
        Due.due("check", h.check(), 1);
    }

    private static void sitesAndResults() {
        // r[0] = r[0] + 1: as a FIELD is
        AnalysisHouse h = Due.built(0, 1, 1, 0,
            0, 1, 28, 0, 2, 0, 1, 0, 0, 0, 1, 0, 0, 0, 30, 0, 0, 1, 7, 0, 31, 0, 33, 0);
        for (int again = 0; again < 2; again++) {
            Due.due("ELEMENT: PASSES", h.analyze(1), 11);
            Due.due("ELEMENT: low", h.site(1, 3), MIN);
            Due.due("ELEMENT: high", h.site(1, 4), MAX);
        }
        // for ever: r = a new one, longer by 1
        h = Due.built(0, 1, 1, 0, 0, 0, 28, 0, 2, 0, 1, 0, 29, 0, 0, 1, 7, 0, 28, 0, 2, 0, 19, 3);
        for (int again = 0; again < 2; again++) {
            Due.due("LENGTH: PASSES", h.analyze(1), 11);
            Due.due("LENGTH: low", h.site(2, 0), 0);
            Due.due("LENGTH: high", h.site(2, 1), MAX);
            Due.due("LENGTH of the other", h.site(1, 1), 0);
        }
        // f(n) = n = 0 ? 0 : f(n) + 1
        h = Due.built(1, 1, 0, 1,
            1, 0, 0, 0, 20, 8, 1, 0, 32, 0, 0, 1, 7, 0, 33, 0, 0, 0, 33, 0);
        for (int again = 0; again < 2; again++) {
            Due.due("RESULT: PASSES", h.analyze(1), 12);
            Due.due("RESULT: low", h.result(0, 0), MIN);
            Due.due("RESULT: high", h.result(0, 1), MAX);
        }
    }

    /** METHOD 1 is called with 0, 10, .., 50: the 4th change goes on to 120; the last two walks take that back. */
    private static void called() {
        AnalysisHouse h = new AnalysisHouse();
        h.method(0, 0, 0, 0);
        for (int v = 0; v <= 50; v += 10) {
            Due.code(h, 0, 0, v, 32, 1);
        }
        Due.code(h, 0, 33, 0);
        h.method(1, 1, 0, 0);
        Due.code(h, 1, 1, 0, 4, 0, 1, 0, 4, 0, 33, 0);
        h.build();
        h.analyze(1);
        Due.span("called", h, Due.at(1, 0, 0), 0, 50, 10);
        Due.span("one behind", h, Due.at(1, 1, 0), 0, 50, 10);
        Due.span("two behind: as it was widened", h, Due.at(1, 2, 0), 0, 120, 10);
    }

    /** What was wide, and how often what is told changed, is not kept for another BUILD, another analyze(). */
    private static void builtAgain() {
        AnalysisHouse h = thousands(19, 9);
        h.wipe(0);
        Due.code(h, 0,
            0, 0, 2, 0, 1, 0, 0, 100, 23, 14, 1, 0, 0, 1000, 9, 0, 2, 1,
            1, 0, 0, 1, 7, 0, 2, 0, 19, 2, 33, 0, 33, 0);
        h.build();
        h.analyze(1);
        Due.span("not wide any more", h, Due.at(0, 11, 1), 0, 99000, 1000);
        h = Due.built(0, 0, 0, 0, 34, 0, 0, 1, 7, 0, 35, 0, 33, 0);
        h.analyze(1);
        Due.due("FIELD again: PASSES", h.analyze(1), 11);
    }

    /**
     * METHOD 1 is given 0 and then what it gave back, one more each time; its PLACE 1 has changed as often as PLACE 0
     * when FIELD 0 becomes 1000, and is not wide.
     */
    private static void placeOne() {
        AnalysisHouse h = new AnalysisHouse();
        h.method(0, 0, 0, 1);
        Due.code(h, 0, 0, 0, 32, 1, 32, 1, 32, 1, 32, 1, 33, 0);
        h.method(1, 1, 0, 1);
        Due.code(h, 1, 34, 0, 19, 2, 19, 3, 4, 0,
            1, 0, 0, 4, 22, 9, 0, 1000, 35, 0, 1, 0, 0, 1, 7, 0, 33, 0);
        h.build();
        h.analyze(1);
        Due.span("what was given", h, Due.at(1, 2, 0), Due.MIN, Due.MAX, 1);
        Due.span("FIELD 0 two PLACES behind PLACE 1", h, Due.at(1, 3, 10), 0, 1000, 1000);
        Due.due("check", h.check(), 1);
    }
}
