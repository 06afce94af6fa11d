/** The edges of THE ANALYSIS that 'Terms' names, sentence by sentence: PASSES, the 4th change, what is made anew. */
public final class AnalysisEdgesTest {
    private static final int MIN = Integer.MIN_VALUE;
    private static final int MAX = Integer.MAX_VALUE;

    public static void main(String[] args) {
        atFirst();
        rootsArguments();
        fourthChangeOfStates();
        fourthChangeOfPlaceZero();
        fourthChangeOfFields();
        fourthChangeOfResults();
        fourthChangeOfLengths();
        fourthChangeOfElements();
        andLater();
        marksToo();
        setsToo();
        widePlaces();
        waysToWidePlaces();
        allIsNothingAgain();
        ledgesAbove();
        ledgesBelow();
        endsThatAreOthers();
        byStride();
        firstIsNoChange();
        aPass();
        passesEnd();
        madeAnewTwice();
        notComeTo();
        fieldsAnew();
        outsideAnew();
        Due.end("AnalysisEdgesTest");
    }

    private static long[] is(long... span) {
        return Lines.is(span);
    }

    private static void span(String what, AnalysisHouse h, int place, int slot, long[] want) {
        Due.span(what, h, Due.at(0, place, slot), want[0], want[1], want[2]);
    }

    /**
     * One PLACE to which, by PLACES and so one behind the other in a PASS, come STATES with what each of these lines
     * puts on the stack; nothing else is another one. At the end stands one more INSTRUCTION, which has no SHAPE: with
     * 19 and that PLACE it makes it wide. Behind the PLACE stand a 19, another, and a 33.
     */
    private static AnalysisHouse arrivals(int op, int a, int[]... lines) {
        return Due.analysed(3, 4, 0, 0, Lines.join(
            arriving(lines), behind(meeting(lines)), Lines.of(op, a)));
    }

    private static int[] arriving(int[]... lines) {
        int meeting = meeting(lines);
        int[] code = new int[0];
        for (int i = 0; i < lines.length; i++) {
            // what is compared has no MARK, so that LOCAL 0 stays as it is
            int next = code.length / 2 + 5 + lines[i].length / 2;
            boolean last = i == lines.length - 1;
            int[] asked = last ? new int[0] : Lines.of(1, 0, 18, 0, 0, i, 21, next);
            code = Lines.join(code, asked, lines[i], Lines.of(19, meeting));
        }
        return code;
    }

    private static int meeting(int[]... lines) {
        int place = -4;
        for (int[] line : lines) {
            place += 5 + line.length / 2;
        }
        return place;
    }

    private static int[] behind(int place) {
        return Lines.of(19, place + 1, 19, place + 2, 33, 0);
    }

    /** What is told two PLACES behind the one to which these numbers come: there it is as it was widened. */
    private static void wide(String what, long[] want, int... numbers) {
        int[][] lines = numbers(numbers);
        AnalysisHouse h = arrivals(19, meeting(lines), lines);
        span(what, h, meeting(lines) + 2, 10, want);
        Due.due(what + ": check", h.check(), 1);
    }

    private static int[][] numbers(int... numbers) {
        int[][] lines = new int[numbers.length][];
        for (int i = 0; i < numbers.length; i++) {
            lines[i] = Lines.of(0, numbers[i]);
        }
        return lines;
    }

    private static void atFirst() {
        Due.of("all is NOTHING; FIELDS 0; OUTSIDE has LENGTH 0 .. 2147483647, ELEMENT ALL (STRIDE 1).");
        AnalysisHouse h = Due.built(1, 1, 0, 1, 0, 3, 28, 0, 4, 0, 0, 7, 35, 0, 1, 0, 33, 0);
        h.analyze(0);
        for (int place = 0; place < 7; place++) {
            Due.due("no STATE at " + place, h.reached(0, place), false);
        }
        for (int what = 0; what < 6; what++) {
            Due.due("NOTHING of a SITE", h.site(1, what), Due.NO);
        }
        Due.due("no RESULT", h.result(0, 5), 0);
        for (int f = 0; f < 4; f++) {
            for (int what = 0; what < 3; what++) {
                Due.due("FIELD " + f, h.field(f, what), 0);
            }
        }
        long[] outside = {0, MAX, 1, MIN, MAX, 1};
        for (int what = 0; what < 6; what++) {
            Due.due("OUTSIDE " + what, h.site(0, what), outside[what]);
        }
    }

    private static void rootsArguments() {
        Due.of("To PLACE 0 of each ROOT come ARGUMENTS: ALL; null or OUTSIDE.");
        AnalysisHouse h = new AnalysisHouse();
        for (int m = 0; m < 8; m++) {
            h.method(2, 4, 10, 0);
            h.code(m, 33, 0);
        }
        h.build();
        h.analyze(129);
        for (int m = 0; m < 8; m++) {
            boolean root = m == 0 || m == 7;
            Due.due("METHOD " + m, h.reached(m, 0), root);
            if (root) {
                Due.span("an INT", h, Due.at(m, 0, 0), MIN, MAX, 1);
                Due.set("an ARRAY", h, Due.at(m, 0, 1), 1, true);
                Due.span("another INT", h, Due.at(m, 0, 2), 0, 0, 0);
                Due.set("another ARRAY", h, Due.at(m, 0, 3), 0, true);
            }
        }
        h.analyze(255);
        Due.due("all eight", h.reached(1, 0) && h.reached(6, 0), true);
    }

    private static void fourthChangeOfStates() {
        Due.of("when that changes it (MARKS, too) the 4th time and later");
        wide("no change", is(5), 5, 5, 5, 5, 5, 5);
        wide("3 changes", is(0, 30, 10), 0, 10, 20, 30);
        wide("4 changes", is(0, 120, 10), 0, 10, 20, 30, 40);
        wide("3 changes, and what changes nothing", is(0, 30, 10), 0, 0, 10, 10, 20, 0, 30, 20, 10);
        wide("the 4th behind what changes nothing", is(0, 120, 10), 0, 0, 10, 10, 20, 0, 30, 40);
    }

    /** METHOD 1 is called with each of these; what it is given, two PLACES behind its PLACE 0. */
    private static void given(String what, long high, int... numbers) {
        AnalysisHouse h = new AnalysisHouse();
        h.method(0, 0, 0, 0);
        for (int v : numbers) {
            Due.code(h, 0, 0, v, 32, 1);
        }
        h.code(0, 33, 0);
        h.method(1, 1, 0, 0);
        Due.code(h, 1, 19, 1, 19, 2, 33, 0);
        h.build();
        h.analyze(1);
        Due.span(what, h, Due.at(1, 2, 0), 0, high, 10);
    }

    private static void fourthChangeOfPlaceZero() {
        Due.of("(of STATES: at a PLACE 0,");
        given("3 changes", 30, 0, 10, 20, 30);
        given("4 changes", 120, 0, 10, 20, 30, 40);
    }

    private static void fourthChangeOfFields() {
        Due.of("What comes to a STATE (SPAN, SET, RESULT; a LENGTH, an ELEMENT each by itself) that is there makes it "
            + "BOTH;");
        int[] three = {0, 10, 35, 0, 0, 20, 35, 0, 0, 30, 35, 0};
        int[] read = {34, 0, 19, 0, 33, 0};
        read[3] = 8;
        AnalysisHouse h = Due.analysed(0, 0, 0, 0, Lines.join(three, read));
        span("FIELD, 3 changes", h, 8, 10, is(0, 30, 10));
        read[3] = 10;
        h = Due.analysed(0, 0, 0, 0, Lines.join(three, Lines.of(0, 40, 35, 0), read));
        span("FIELD, 4 changes", h, 10, 10, is(0, 120, 10));
        // each FIELD by itself
        int[] others = {0, 10, 35, 1, 0, 20, 35, 1, 0, 30, 35, 1};
        read[3] = 14;
        h = Due.analysed(0, 0, 0, 0, Lines.join(others, three, read));
        span("another FIELD's changes", h, 14, 10, is(0, 30, 10));
    }

    private static void fourthChangeOfResults() {
        Due.of("What comes to a STATE (SPAN, SET, RESULT; a LENGTH, an ELEMENT each by itself) that is there makes it "
            + "BOTH;");
        for (int count = 4; count <= 5; count++) {
            AnalysisHouse h = new AnalysisHouse();
            h.method(1, 1, 0, 0);
            Due.code(h, 0, 1, 0, 32, 1, 19, 3, 33, 0);
            h.method(1, 1, 0, 1);
            for (int i = 0; i < count; i++) {
                Due.code(h, 1, 1, 0, 0, i, 21, 5 * i + 5, 0, 10 * i, 33, 0);
            }
            Due.code(h, 1, 19, 5 * count);
            h.build();
            h.analyze(1);
            span("RESULT, " + (count - 1) + " changes", h, 3, 10, is(0, count == 4 ? 30 : 120, 10));
            Due.due("RESULT itself is made anew", h.result(1, 1), 10 * count - 10);
        }
    }

    /** r = new 0; for ever: n = LENGTH of r and 1; if n > most, end; r = new n. What 29 told is seen at PLACE 6. */
    private static void fourthChangeOfLengths() {
        Due.of("What comes to a STATE (SPAN, SET, RESULT; a LENGTH, an ELEMENT each by itself) that is there makes it "
            + "BOTH;");
        for (int most = 4; most <= 5; most++) {
            AnalysisHouse h = Due.analysed(0, 2, 1, 0,
                0, 0, 28, 0, 2, 0, 1, 0, 29, 0, 19, 6, 0, 1, 7, 0, 2, 1, 1, 1, 0, most, 24, 18,
                1, 1, 28, 0, 2, 0, 0, 0, 2, 1, 19, 3, 33, 0);
            span("LENGTH, " + (most - 1) + " changes", h, 6, 10, is(0, most == 4 ? 4 : 127, 1));
            Due.due("LENGTH itself is made anew", h.site(2, 1), most);
            Due.due("the other SITE's", h.site(1, 1), 0);
        }
    }

    /** r = new 1; n = r[0] and 1; if n <= most, r[0] = n. What 30 told is seen at PLACE 7. */
    private static void fourthChangeOfElements() {
        Due.of("What comes to a STATE (SPAN, SET, RESULT; a LENGTH, an ELEMENT each by itself) that is there makes it "
            + "BOTH;");
        for (int most = 3; most <= 4; most++) {
            AnalysisHouse h = Due.analysed(0, 2, 1, 0,
                0, 1, 28, 0, 2, 0, 1, 0, 0, 0, 30, 0, 19, 7, 0, 1, 7, 0, 2, 1, 1, 1, 0, most, 24, 17,
                1, 0, 0, 0, 1, 1, 31, 0, 33, 0);
            span("ELEMENT, " + most + " changes", h, 7, 10, is(0, most == 3 ? 3 : 127, 1));
            Due.due("ELEMENT itself is made anew", h.site(1, 4), most);
        }
    }

    private static void andLater() {
        Due.of("the 4th time and later");
        wide("the 5th", is(0, 255, 1), 0, 1, 2, 3, 4, 128);
        wide("the 6th", is(0, 32767, 1), 0, 1, 2, 3, 4, 128, 256);
        wide("what the 4th went beyond is no 5th", is(0, 127, 1), 0, 1, 2, 3, 4, 127);
        wide("the 5th below", is(-128, 127, 1), 0, 1, 2, 3, 4, -2);
        wide("the 5th changes the STRIDE alone", is(0, 120, 5), 0, 10, 20, 30, 40, 5);
    }

    private static void marksToo() {
        Due.of("(MARKS, too)");
        // LOCAL 3 is 0: 0 without its MARK changes nothing else
        int[][] lines = {{1, 3}, {0, 0}, {0, 10}, {0, 20}, {0, 30}};
        AnalysisHouse h = arrivals(19, meeting(lines), lines);
        span("a MARK that goes, and 3 changes", h, meeting(lines) + 2, 10, is(0, 120, 10));
        lines[1] = Lines.of(1, 3);
        h = arrivals(19, meeting(lines), lines);
        span("the same MARK, and 3 changes", h, meeting(lines) + 2, 10, is(0, 30, 10));
        // where there is no MARK, one that comes changes nothing
        int[][] other = {{0, 0}, {1, 3}, {0, 10}, {0, 20}, {0, 30}};
        h = arrivals(19, meeting(other), other);
        span("a MARK that comes, and 3 changes", h, meeting(other) + 2, 10, is(0, 30, 10));
    }

    private static void setsToo() {
        Due.of("each of its SPANS whose low, high is another one");
        // a SET below grows four times while the number does not change: then it does, the 5th time
        int[] none = {3, 0, 0, 7};
        int[] made = {0, 1, 28, 0, 0, 7};
        int[][] lines = {none, made, made, made, made};
        AnalysisHouse h = arrivals(19, meeting(lines), lines);
        span("the number stays", h, meeting(lines) + 2, 11, is(7));
        Due.set("the SET", h, Due.at(0, meeting(lines) + 2, 10), 30, true);
        int[][] more = {none, made, made, made, Lines.of(3, 0, 0, 8)};
        h = arrivals(19, meeting(more), more);
        span("the number is another one", h, meeting(more) + 2, 11, is(7, 127, 1));
    }

    private static void widePlaces() {
        Due.of("and at one to which a 19 .. 27 at that or a later PLACE goes, whether that has a SHAPE or not),");
        int[][] lines = numbers(0, 10, 20, 30, 40);
        int place = meeting(lines);
        for (int op = 0; op < 36; op++) {
            boolean jumps = op >= 19 && op <= 27;
            int a = op == 32 || op == 1 || op == 2 || op >= 34 ? 0 : place;
            span("by " + op, arrivals(op, a, lines), place + 2, 10, is(0, jumps ? 120 : 40, 10));
        }
        span("to the PLACE before", arrivals(19, place - 1, lines), place + 2, 10, is(0, 40, 10));
        // the PLACE behind is wide by that, and what comes to it in each PASS changes it once only
        span("to the PLACE behind", arrivals(19, place + 1, lines), place + 2, 10, is(0, 40, 10));
        // a 19 at that PLACE which goes to it
        AnalysisHouse h = Due.analysed(3, 4, 0, 0, Lines.join(arriving(lines), Lines.of(19, place)));
        span("at that PLACE", h, place, 10, is(0, 120, 10));
        // METHOD 1's PLACE is wide, not METHOD 0's of the same number
        h = new AnalysisHouse();
        for (int m = 0; m < 2; m++) {
            h.method(3, 4, 0, 0);
            Due.code(h, m, Lines.join(arriving(lines), behind(place), Lines.of(m == 1 ? 19 : 0, place)));
        }
        h.build();
        h.analyze(3);
        Due.span("METHOD 0", h, Due.at(0, place + 2, 10), 0, 40, 10);
        Due.span("METHOD 1", h, Due.at(1, place + 2, 10), 0, 120, 10);
        h.wipe(0);
        h.wipe(1);
        for (int m = 0; m < 2; m++) {
            Due.code(h, m, Lines.join(arriving(lines), behind(place), Lines.of(m == 0 ? 19 : 0, place)));
        }
        h.build();
        h.analyze(3);
        Due.span("METHOD 0 now", h, Due.at(0, place + 2, 10), 0, 120, 10);
        Due.span("METHOD 1 not any more", h, Due.at(1, place + 2, 10), 0, 40, 10);
    }

    /** The last of five comes to the wide PLACE by these lines, which stand before it. */
    private static void comingBy(String what, int[] lines) {
        int[][] numbers = numbers(0, 10, 20, 30, 40);
        int[] head = arriving(numbers);
        // four go to the PLACE behind the lines; the 19 of the last one gives way to them
        int place = meeting(numbers) - 1 + lines.length / 2;
        for (int at = 1; at < head.length; at += 2) {
            if (head[at - 1] == 19) {
                head[at] = place;
            }
        }
        int[] code = Lines.join(java.util.Arrays.copyOf(head, head.length - 2), lines);
        for (int at = 1; at < code.length; at += 2) {
            code[at] = code[at] == TO_WIDE ? place : code[at] == TO_END ? place + 2 : code[at];
        }
        AnalysisHouse h = Due.analysed(3, 4, 0, 0, Lines.join(code, behind(place), Lines.of(19, place)));
        span(what, h, place + 2, 10, is(0, 120, 10));
        h = Due.analysed(3, 4, 0, 0, Lines.join(code, behind(place), Lines.of(33, 0)));
        span(what + ", not wide", h, place + 2, 10, is(0, 40, 10));
    }

    private static final int TO_WIDE = 1001;
    private static final int TO_END = 1002;

    private static void waysToWidePlaces() {
        Due.of("and at one to which a 19 .. 27 at that or a later PLACE goes, whether that has a SHAPE or not),");
        comingBy("next of the 0", new int[0]);
        comingBy("next of a 4", Lines.of(0, 1, 4, 0));
        comingBy("next of a 35", Lines.of(34, 0, 35, 0));
        comingBy("19", Lines.of(19, TO_WIDE));
        comingBy("next of a 20", Lines.of(0, 1, 0, 2, 20, TO_END));
        comingBy("a of a 20", Lines.of(0, 1, 0, 1, 20, TO_WIDE, 33, 0));
        comingBy("next of a 22", Lines.of(0, 2, 0, 2, 22, TO_END));
        comingBy("a of a 25", Lines.of(0, 1, 0, 1, 25, TO_WIDE, 33, 0));
        comingBy("next of a 26", Lines.of(0, 1, 28, 0, 26, TO_END));
        comingBy("a of a 26", Lines.of(3, 0, 26, TO_WIDE, 33, 0));
        comingBy("next of a 27", Lines.of(3, 0, 27, TO_END));
        comingBy("a of a 27", Lines.of(0, 1, 28, 0, 27, TO_WIDE, 33, 0));
    }

    /** How often what is told has changed is not kept for another analyze(). */
    private static void allIsNothingAgain() {
        Due.of("THE ANALYSIS of ROOTS (METHODS): all is NOTHING;");
        int[] field = {34, 0, 0, 1, 7, 0, 35, 0, 33, 0};
        int[] element = {0, 1, 28, 0, 2, 0, 1, 0, 0, 0, 1, 0, 0, 0, 30, 0, 0, 1, 7, 0, 31, 0, 33, 0};
        int[] length = {0, 0, 28, 0, 2, 0, 1, 0, 29, 0, 0, 1, 7, 0, 28, 0, 2, 0, 19, 3};
        int[] loop = {34, 0, 4, 0, 1, 1, 0, 1, 7, 0, 2, 1, 19, 0};
        AnalysisHouse[] houses = {
            Due.built(0, 0, 0, 0, field), Due.built(0, 1, 1, 0, element), Due.built(0, 1, 1, 0, length),
            Due.built(0, 2, 0, 0, loop)
        };
        for (AnalysisHouse h : houses) {
            int passes = h.analyze(1);
            Due.due("some PASSES", passes > 5, true);
            for (int k = 0; k < 2; k++) {
                Due.due("as many again", h.analyze(1), passes);
                Due.due("none for no ROOTS", h.analyze(0), 1);
            }
        }
        // 3 changes each time
        int[][] lines = numbers(0, 10, 20, 30);
        AnalysisHouse h = arrivals(19, meeting(lines), lines);
        for (int k = 0; k < 3; k++) {
            h.analyze(1);
            span("3 changes, again", h, meeting(lines) + 2, 10, is(0, 30, 10));
        }
    }

    private static final int[] LEDGES = {MIN, -32768, -128, -1, 0, 1, 127, 255, 32767, 65535, MAX};

    private static void ledgesAbove() {
        Due.of("goes to the nearest at it or beyond of -2147483648, -32768, -128, -1, 0, 1, 127, 255, 32767, 65535, "
            + "2147483647");
        for (int i = 1; i < LEDGES.length; i++) {
            int ledge = LEDGES[i];
            wide("at " + ledge, is(MIN, ledge, 1), MIN, MIN + 1, MIN + 2, MIN + 3, ledge);
            if (ledge - 1 != LEDGES[i - 1]) {
                wide("below " + ledge, is(MIN, ledge, 1), MIN, MIN + 1, MIN + 2, MIN + 3, ledge - 1);
            }
            int before = LEDGES[i - 1];
            if (before != MIN) {
                wide("above " + before, is(MIN, ledge, 1), MIN, MIN + 1, MIN + 2, MIN + 3, before + 1);
            }
        }
    }

    private static void ledgesBelow() {
        Due.of("goes to the nearest at it or beyond of -2147483648, -32768, -128, -1, 0, 1, 127, 255, 32767, 65535, "
            + "2147483647");
        for (int i = 0; i < LEDGES.length - 1; i++) {
            int ledge = LEDGES[i];
            wide("at " + ledge, is(ledge, MAX, 1), MAX, MAX - 1, MAX - 2, MAX - 3, ledge);
            if (ledge + 1 != LEDGES[i + 1]) {
                wide("above " + ledge, is(ledge, MAX, 1), MAX, MAX - 1, MAX - 2, MAX - 3, ledge + 1);
            }
            int next = LEDGES[i + 1];
            if (next != MAX) {
                wide("below " + next, is(ledge, MAX, 1), MAX, MAX - 1, MAX - 2, MAX - 3, next - 1);
            }
        }
    }

    private static void endsThatAreOthers() {
        Due.of("each of its SPANS whose low, high is another one goes");
        wide("high alone", is(10, 127, 1), 10, 11, 12, 13, 14);
        wide("low alone", is(1, 14, 1), 14, 13, 12, 11, 10);
        wide("neither: the STRIDE alone", is(0, 40, 5), 0, 40, 20, 10, 5);
        // the upper number of the stack changes each time, the lower one the first time only
        int[][] lines = {{0, 50, 0, 0}, {0, 60, 0, 1}, {0, 60, 0, 2}, {0, 50, 0, 3}, {0, 60, 0, 4}};
        AnalysisHouse h = arrivals(19, meeting(lines), lines);
        span("another one that stays", h, meeting(lines) + 2, 10, is(50, 60, 10));
        span("one that changes", h, meeting(lines) + 2, 11, is(0, 127, 1));
        // both ends at once: a SPAN comes
        int[][] both = {{0, 0}, {0, 1}, {0, 2}, {0, 3}, {1, 0, 0, 15, 12, 0, 0, 7, 8, 0}};
        h = arrivals(19, meeting(both), both);
        span("both ends", h, meeting(both) + 2, 10, is(-128, 127, 1));
    }

    private static void byStride() {
        Due.of("(and WITHIN that, by its STRIDE).");
        wide("up by 10", is(3, 123, 10), 3, 13, 23, 33, 43);
        wide("down by 10", is(-123, -3, 10), -3, -13, -23, -33, -43);
        wide("up to the ledge itself", is(7, 127, 10), 7, 17, 27, 37, 47);
        wide("down to the ledge itself", is(-128, -8, 10), -8, -18, -28, -38, -48);
        wide("no one of the row is nearer to the ledge", is(0, 120, 30), 0, 30, 60, 90, 120);
        wide("by 100", is(0, 32700, 100), 0, 100, 200, 300, 400);
        wide("by the STRIDE that it has then", is(0, 126, 2), 0, 12, 24, 36, 38);
        wide("to the greatest by 65536", is(0, 2147418112, 65536), 0, 65536, 131072, 196608, 262144);
        wide("to the least by 65536", is(MIN, 0, 65536), 0, -65536, -131072, -196608, -262144);
    }

    private static void firstIsNoChange() {
        Due.of("What is first there is no change.");
        wide("first and 3 changes", is(0, 30, 10), 0, 10, 20, 30);
        // FIELDS are there before: 4 changes by 4 numbers
        AnalysisHouse h = Due.analysed(0, 0, 0, 0,
            0, 1, 35, 0, 0, 2, 35, 0, 0, 3, 35, 0, 0, 4, 35, 0, 34, 0, 19, 10, 33, 0);
        span("a FIELD's first number is a change", h, 10, 10, is(0, 127, 1));
    }

    private static void aPass() {
        Due.of("A PASS: the ROOTS' ARGUMENTS come, by METHODS; then, by METHODS and PLACES, each PLACE that has a STATE "
            + "by then makes its STEP.");
        AnalysisHouse h = Due.built(0, 0, 0, 0, Lines.join(Lines.times(59, 32, 0), Lines.of(33, 0)));
        Due.due("it calls itself at once", h.analyze(1), 2);
        h = Due.built(0, 0, 0, 0, Lines.join(Lines.times(29, 0, 1, 4, 0), Lines.of(33, 0)));
        Due.due("straight on in one PASS", h.analyze(1), 2);
        h = Due.built(0, 0, 0, 0, 19, 2, 33, 0, 19, 1);
        Due.due("back: its STEP is in the next PASS", h.analyze(1), 3);
        h = Due.built(0, 0, 0, 0, 19, 3, 33, 0, 19, 1, 19, 2);
        Due.due("back twice", h.analyze(1), 4);
        h = new AnalysisHouse();
        for (int m = 0; m < 3; m++) {
            h.method(0, 0, 0, 0);
        }
        Due.code(h, 0, 32, 1, 33, 0);
        Due.code(h, 1, 32, 2, 33, 0);
        Due.code(h, 2, 33, 0);
        h.build();
        Due.due("METHODS behind: each returns one PASS later", h.analyze(1), 4);
        Due.due("METHODS behind, all ROOTS", h.analyze(7), 4);
        h.wipe(0);
        h.wipe(2);
        Due.code(h, 0, 33, 0);
        Due.code(h, 2, 32, 0, 33, 0);
        h.wipe(1);
        Due.code(h, 1, 32, 0, 33, 0);
        h.build();
        Due.due("METHODS before, all ROOTS: they have returned by then", h.analyze(7), 2);
        Due.due("METHODS before: they begin in the next PASS", h.analyze(6), 3);
    }

    private static void passesEnd() {
        Due.of("PASSES are made till one changes nothing (and nothing is first there).");
        AnalysisHouse h = Due.built(0, 0, 0, 0, 33, 0);
        Due.due("no ROOTS: the first changes nothing", h.analyze(0), 1);
        Due.due("the first tells all, the second nothing", h.analyze(1), 2);
        h = Due.built(0, 0, 0, 0, 19, 0);
        Due.due("for ever", h.analyze(1), 2);
        // PASS 1 puts 1 to FIELD 0 behind the 34; PASS 2 tells it at the 34; PASS 3 changes nothing
        h = Due.built(0, 0, 0, 0, 34, 0, 4, 0, 0, 1, 35, 0, 33, 0);
        Due.due("a FIELD that is read before it is put", h.analyze(1), 3);
        // in PASS 2 the RESULT is first there, and nothing else is another one
        h = Due.built(0, 0, 0, 0, 19, 2, 33, 0, 19, 1);
        Due.due("a RESULT that is first there in PASS 2", h.analyze(1), 3);
        h = Due.built(0, 0, 0, 0, 34, 0, 0, 5, 20, 6, 0, 5, 35, 0, 33, 0, 33, 0);
        Due.due("a STATE that is first there in PASS 2", h.analyze(1), 3);
        Due.due("it is come to", h.reached(0, 6), true);
    }

    private static void madeAnewTwice() {
        Due.of("Then twice: all anew by what was");
        int[][] lines = numbers(0, 10, 20, 30, 40);
        int place = meeting(lines);
        AnalysisHouse h = arrivals(19, place, lines);
        span("where it came to", h, place, 10, is(0, 40, 10));
        span("one behind, by the second time", h, place + 1, 10, is(0, 40, 10));
        span("two behind: a third time is not made", h, place + 2, 10, is(0, 120, 10));
        Due.of("the STEPS of all STATES as they were, with SITES, FIELDS, RESULTS as they were, BOTH of all that comes;");
        h = Due.analysed(0, 0, 0, 0,
            0, 10, 35, 0, 0, 20, 35, 0, 0, 30, 35, 0, 0, 40, 35, 0, 34, 0, 19, 10, 33, 0);
        span("a FIELD, behind the 34", h, 9, 10, is(0, 40, 10));
        span("two behind the 34: as the FIELD was", h, 10, 10, is(0, 120, 10));
        // FIELDS, RESULTS, SITES: of what is put there where the numbers meet, and one PLACE behind
        int[][] elements = new int[5][];
        for (int i = 0; i < 5; i++) {
            elements[i] = Lines.of(0, 1, 28, 0, 0, 0, 0, 10 * i);
        }
        for (int more = 0; more <= 1; more++) {
            int high = more == 0 ? 40 : 120;
            h = meetingAt(0, lines, more, 35, 0, 33, 0);
            Due.due("FIELD " + more + " behind", h.field(0, 1), high);
            h = meetingAt(1, lines, more, 33, 0);
            Due.due("RESULT " + more + " behind", h.result(0, 1), high);
            h = meetingAt(0, lines, more, 28, 0, 33, 0);
            Due.due("LENGTH " + more + " behind", h.site(1, 1), high);
            h = meetingAt(0, lines, more, 32, 1, 33, 0);
            Due.due("what is given " + more + " behind", h.state(1, 0, 0, 1), high);
            h = meetingAt(0, elements, more, 31, 0, 33, 0);
            Due.due("ELEMENT " + more + " behind", h.site(1, 4), high);
        }
    }

    /** These lines stand where the numbers meet, or so many PLACES behind; METHOD 1 takes a number. */
    private static AnalysisHouse meetingAt(int result, int[][] numbers, int more, int... lines) {
        int place = meeting(numbers);
        AnalysisHouse h = new AnalysisHouse();
        h.method(3, 4, 0, result);
        int[] between = more == 0 ? new int[0] : Lines.of(19, place + 1);
        Due.code(h, 0, Lines.join(arriving(numbers), between, lines, Lines.of(19, place)));
        h.method(1, 1, 0, 0);
        h.code(1, 33, 0);
        Due.due("it builds", h.build() > 0, true);
        h.analyze(1);
        return h;
    }

    /** Two lie on the stack where they meet: a number, and 120; what is above 120 goes on at another PLACE. */
    private static void notComeTo() {
        Due.of("(what is not come to by this is NOTHING)");
        int[][] lines = new int[5][];
        for (int i = 0; i < 5; i++) {
            lines[i] = Lines.of(0, i, 0, 120);
        }
        int place = meeting(lines);
        AnalysisHouse h = Due.built(3, 4, 0, 0, Lines.join(arriving(lines),
            Lines.of(24, place + 2, 33, 0, 0, 9, 35, 0, 33, 0, 19, place)));
        h.analyze(1);
        Due.due("the PLACE where they meet", h.reached(0, place), true);
        Due.due("what was come to by 127 is not any more", h.reached(0, place + 2), false);
        Due.due("behind it: by what was", h.reached(0, place + 3), true);
        Due.due("no SPAN there", h.state(0, place + 2, 0, 0), Due.NO);
        Due.due("its VERDICT", h.verdict(0, place + 2, 1), 0);
        Due.due("it holds", h.check(), 1);
    }

    private static void fieldsAnew() {
        Due.of("FIELDS from 0,");
        AnalysisHouse h = Due.analysed(0, 0, 0, 0, 0, 6, 35, 0, 33, 0);
        Due.due("low", h.field(0, 0), 0);
        Due.due("high", h.field(0, 1), 6);
        Due.due("STRIDE", h.field(0, 2), 6);
        int[] five = new int[0];
        for (int v = 10; v <= 50; v += 10) {
            five = Lines.join(five, Lines.of(0, v, 35, 0));
        }
        h = Due.analysed(0, 0, 0, 0, Lines.join(five, Lines.of(33, 0)));
        Due.due("it went on to 120, and is 50 anew", h.field(0, 1), 50);
        Due.due("its low", h.field(0, 0), 0);
    }

    private static void outsideAnew() {
        Due.of("OUTSIDE as at first.");
        AnalysisHouse h = Due.analysed(1, 1, 1, 0, 1, 0, 0, 0, 0, 5, 31, 0, 33, 0);
        long[] outside = {0, MAX, 1, MIN, MAX, 1};
        for (int what = 0; what < 6; what++) {
            Due.due("OUTSIDE " + what, h.site(0, what), outside[what]);
        }
        Due.due("what is put there is in it", h.check(), 1);
    }
}
