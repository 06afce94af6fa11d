import java.math.BigInteger;
import java.util.ArrayList;
import java.util.Arrays;
import java.util.List;
import java.util.Map;
import java.util.TreeMap;

/**
 * The document once more, written apart from the class and with no heed to speed or room: whole numbers are
 * BigIntegers, STATES are values that never change, all facts lie in one map by their names. Tests hold the class
 * against it.
 */
final class Oracle {
    static final int NONE = -1;
    static final long NO = -4611686018427387904L;
    static final long MIN = Integer.MIN_VALUE;
    static final long MAX = Integer.MAX_VALUE;
    static final BigInteger TWO32 = BigInteger.ONE.shiftLeft(32);

    // ---------------------------------------------------------------- values

    interface Val { }

    record Span(long low, long high, long stride) implements Val {
        boolean single() {
            return low == high;
        }

        boolean has(long v) {
            return v >= low && v <= high && (single() || Math.floorMod(v - low, stride) == 0);
        }
    }

    record SetOf(int sites, boolean orNull) implements Val { }

    static final Span ALL = new Span(MIN, MAX, 1);
    static final Span ZERO = new Span(0, 0, 0);

    static BigInteger big(long v) {
        return BigInteger.valueOf(v);
    }

    static Span span(long low, long high, long stride) {
        return low > high ? null : new Span(low, high, low == high ? 0 : stride);
    }

    static Span one(long v) {
        return new Span(v, v, 0);
    }

    static Val both(Val a, Val b) {
        if (a == null) {
            return b;
        }
        if (b == null) {
            return a;
        }
        if (a instanceof SetOf s) {
            SetOf t = (SetOf) b;
            return new SetOf(s.sites | t.sites, s.orNull || t.orNull);
        }
        Span s = (Span) a;
        Span t = (Span) b;
        BigInteger g = big(s.stride).gcd(big(t.stride)).gcd(big(s.low - t.low));
        return new Span(Math.min(s.low, t.low), Math.max(s.high, t.high), g.longValueExact());
    }

    static Span within(Span s, long a, long b) {
        if (s == null) {
            return null;
        }
        if (s.single()) {
            return s.low >= a && s.low <= b ? s : null;
        }
        long count = (s.high - s.low) / s.stride;
        long first = Math.max(0, -Math.floorDiv(s.low - a, s.stride));
        long last = Math.min(count, Math.floorDiv(b - s.low, s.stride));
        return span(s.low + first * s.stride, s.low + last * s.stride, s.stride);
    }

    static Span lose(Span s, long c) {
        if (s.single()) {
            return s.low == c ? null : s;
        }
        long low = s.low == c ? s.low + s.stride : s.low;
        long high = s.high == c ? s.high - s.stride : s.high;
        return span(low, high, s.stride);
    }

    static Span turned(BigInteger low, BigInteger high, BigInteger s) {
        BigInteger at = low.subtract(big(MIN)).mod(TWO32).add(big(MIN));
        BigInteger moved = high.add(at.subtract(low));
        if (moved.compareTo(big(MAX)) <= 0) {
            return span(at.longValueExact(), moved.longValueExact(), s.longValueExact());
        }
        BigInteger g = s.gcd(TWO32);
        long first = low.subtract(big(MIN)).mod(g).longValueExact() + MIN;
        BigInteger steps = big(MAX).subtract(big(first)).divide(g);
        long last = big(first).add(steps.multiply(g)).longValueExact();
        return span(first, last, g.longValueExact());
    }

    static Span timesOf(long c, Span s) {
        BigInteger a = big(c).multiply(big(s.low));
        BigInteger b = big(c).multiply(big(s.high));
        return turned(a.min(b), a.max(b), big(s.stride).multiply(big(c).abs()));
    }

    static long shiftBare(long v, int k) {
        return ((int) v) >>> k;
    }

    static Span arithmetic(int op, Span x, Span y) {
        boolean singles = x.single() && y.single();
        switch (op) {
            case 7:
                return turned(big(x.low).add(big(y.low)), big(x.high).add(big(y.high)),
                    big(x.stride).gcd(big(y.stride)));
            case 8:
                return turned(big(x.low).subtract(big(y.high)), big(x.high).subtract(big(y.low)),
                    big(x.stride).gcd(big(y.stride)));
            case 9:
                if (y.single()) {
                    return timesOf(y.low, x);
                }
                if (x.single()) {
                    return timesOf(x.low, y);
                }
                List<BigInteger> p = new ArrayList<>();
                for (long a : new long[] {x.low, x.high}) {
                    for (long b : new long[] {y.low, y.high}) {
                        p.add(big(a).multiply(big(b)));
                    }
                }
                p.sort(null);
                return turned(p.get(0), p.get(3), BigInteger.ONE);
            case 10:
                return quotient(x, y);
            case 11:
                return remainder(x, y);
            case 12:
                if (singles) {
                    return one(x.low & y.low);
                }
                if (x.low >= 0 && y.low >= 0) {
                    return span(0, Math.min(x.high, y.high), 1);
                }
                return x.low >= 0 ? span(0, x.high, 1) : y.low >= 0 ? span(0, y.high, 1) : ALL;
            case 13:
            case 14:
                if (singles) {
                    return one(op == 13 ? x.low | y.low : x.low ^ y.low);
                }
                if (x.low < 0 || y.low < 0) {
                    return ALL;
                }
                long top = 1;
                while (top - 1 < x.high || top - 1 < y.high) {
                    top *= 2;
                }
                return span(op == 13 ? Math.max(x.low, y.low) : 0, top - 1, 1);
            case 15:
                return y.single() ? timesOf(1L << (y.low & 31), x) : ALL;
            case 16:
                if (y.single()) {
                    return span(((int) x.low) >> y.low, ((int) x.high) >> y.low, 1);
                }
                return span(x.low < 0 ? x.low : 0, x.high >= 0 ? x.high : -1, 1);
            case 17:
                int k = (int) (y.low & 31);
                if (y.single() && k == 0) {
                    return x;
                }
                if (x.low >= 0) {
                    return arithmetic(16, x, y);
                }
                if (!y.single()) {
                    return ALL;
                }
                return x.high < 0 ? span(shiftBare(x.low, k), shiftBare(x.high, k), 1)
                    : span(0, (1L << (32 - k)) - 1, 1);
            default:
                throw new IllegalStateException("op " + op);
        }
    }

    static List<Span> parts(Span y) {
        List<Span> parts = new ArrayList<>();
        for (Span part : new Span[] {within(y, MIN, -1), within(y, 1, MAX)}) {
            if (part != null) {
                parts.add(part);
            }
        }
        return parts;
    }

    static Span quotient(Span x, Span y) {
        if (x.single() && y.single()) {
            return one((int) (x.low / y.low));
        }
        if (x.low == MIN && y.has(-1)) {
            return ALL;
        }
        List<Long> all = new ArrayList<>();
        for (Span part : parts(y)) {
            for (long j : new long[] {part.low, part.high}) {
                all.add(x.low / j);
                all.add(x.high / j);
            }
        }
        all.sort(null);
        return span(all.get(0), all.get(all.size() - 1), 1);
    }

    static Span remainder(Span x, Span y) {
        if (x.single() && y.single()) {
            return one(x.low % y.low);
        }
        List<Long> sizes = new ArrayList<>();
        for (Span part : parts(y)) {
            sizes.add(Math.abs(part.low));
            sizes.add(Math.abs(part.high));
        }
        sizes.sort(null);
        long n = sizes.get(0);
        long m = sizes.get(sizes.size() - 1);
        if (Math.abs(x.low) < n && Math.abs(x.high) < n) {
            return x;
        }
        long low = x.low >= 0 ? 0 : Math.max(x.low, 1 - m);
        long high = x.high <= 0 ? 0 : Math.min(x.high, m - 1);
        return span(low, high, 1);
    }

    static boolean in(Val a, Val b) {
        if (b == null) {
            return false;
        }
        return both(b, a).equals(b);
    }

    // ---------------------------------------------------------------- states

    /** LOCALS, stack and MARKS; a lone value is a State of one LOCAL. */
    record State(List<Val> locals, List<Val> stack, List<Integer> marks) {
        static State alone(Val v) {
            return new State(v == null ? List.of() : List.of(v), List.of(), List.of());
        }

        Val lone() {
            return locals.get(0);
        }
    }

    static State both(State a, State b) {
        List<Val> locals = new ArrayList<>();
        List<Val> stack = new ArrayList<>();
        List<Integer> marks = new ArrayList<>();
        for (int i = 0; i < a.locals.size(); i++) {
            locals.add(both(a.locals.get(i), b.locals.get(i)));
        }
        for (int i = 0; i < a.stack.size(); i++) {
            stack.add(both(a.stack.get(i), b.stack.get(i)));
            marks.add(a.marks.get(i).equals(b.marks.get(i)) ? a.marks.get(i) : NONE);
        }
        return new State(locals, stack, marks);
    }

    static final long[] LEDGES = {MIN, -32768, -128, -1, 0, 1, 127, 255, 32767, 65535, MAX};

    static Val spread(Val was, Val is) {
        if (!(is instanceof Span s)) {
            return is;
        }
        Span w = (Span) was;
        long low = s.low;
        long high = s.high;
        if (w.low != s.low) {
            long to = s.low;
            low = Arrays.stream(LEDGES).filter(v -> v <= to).max().getAsLong();
        }
        if (w.high != s.high) {
            long to = s.high;
            high = Arrays.stream(LEDGES).filter(v -> v >= to).min().getAsLong();
        }
        if (s.single()) {
            return s;
        }
        // the whole row through the SPAN, as far as the INTS go, and of that what lies within
        long first = s.low - Math.floorDiv(s.low - MIN, s.stride) * s.stride;
        long last = s.high + Math.floorDiv(MAX - s.high, s.stride) * s.stride;
        return within(new Span(first, last, s.stride), low, high);
    }

    static State spread(State was, State is) {
        List<Val> locals = new ArrayList<>();
        List<Val> stack = new ArrayList<>();
        for (int i = 0; i < is.locals.size(); i++) {
            locals.add(spread(was.locals.get(i), is.locals.get(i)));
        }
        for (int i = 0; i < is.stack.size(); i++) {
            stack.add(spread(was.stack.get(i), is.stack.get(i)));
        }
        return new State(locals, stack, is.marks);
    }

    // ---------------------------------------------------------------- programs

    record Method(int arguments, int locals, int kinds, int result, List<int[]> code) {
        boolean array(int local) {
            return (kinds >> local & 1) == 1;
        }
    }

    final List<Method> methods = new ArrayList<>();
    boolean built;
    int fault;
    int faultMethod = NONE;
    int faultPlace = NONE;
    /** "m.place" of the 28s, in their order; the first stands for OUTSIDE. */
    List<String> sites = new ArrayList<>();

    Map<String, State> certificate;
    int roots;

    private void takeAway() {
        built = false;
        certificate = null;
    }

    int method(int arguments, int locals, int kinds, int result) {
        boolean fine = methods.size() < 8 && arguments >= 0 && arguments <= 3 && locals >= arguments && locals <= 6
            && kinds >= 0 && kinds <= (1 << locals) - 1 && result >= 0 && result <= 2;
        if (!fine) {
            return NONE;
        }
        takeAway();
        methods.add(new Method(arguments, locals, kinds, result, new ArrayList<>()));
        return methods.size() - 1;
    }

    private boolean isMethod(int m) {
        return m >= 0 && m < methods.size();
    }

    private boolean isPlace(int m, int p) {
        return isMethod(m) && p >= 0 && p < methods.get(m).code.size();
    }

    int code(int m, int op, int a) {
        if (!isMethod(m) || op < 0 || op > 35 || methods.get(m).code.size() == 60) {
            return NONE;
        }
        takeAway();
        methods.get(m).code.add(new int[] {op, a});
        return methods.get(m).code.size() - 1;
    }

    int wipe(int m) {
        if (!isMethod(m)) {
            return NONE;
        }
        takeAway();
        int had = methods.get(m).code.size();
        methods.get(m).code.clear();
        return had;
    }

    // ---------------------------------------------------------------- builds

    static final String[] TAKEN = {
        "", "", "?", "", "v", "v", "vv", "ii", "ii", "ii", "ii", "ii", "ii", "ii", "ii", "ii", "ii", "ii",
        "i", "", "ii", "ii", "ii", "ii", "ii", "ii", "r", "r", "i", "r", "ri", "rij", "?", "?", "", "i"
    };

    private int failed(int number, int m, int p) {
        fault = number;
        faultMethod = m;
        faultPlace = p;
        return -number;
    }

    int build() {
        takeAway();
        fault = 0;
        faultMethod = NONE;
        faultPlace = NONE;
        for (int m = 0; m < methods.size(); m++) {
            for (int p = 0; p < methods.get(m).code.size(); p++) {
                int op = methods.get(m).code.get(p)[0];
                int a = methods.get(m).code.get(p)[1];
                boolean fine = true;
                if (op == 1 || op == 2) {
                    fine = a >= 0 && a < methods.get(m).locals;
                } else if (op >= 19 && op <= 27) {
                    fine = isPlace(m, a);
                } else if (op == 32) {
                    fine = isMethod(a);
                } else if (op == 34 || op == 35) {
                    fine = a >= 0 && a <= 3;
                }
                if (!fine) {
                    return failed(1, m, p);
                }
            }
        }
        List<String> found = new ArrayList<>();
        found.add("outside");
        for (int m = 0; m < methods.size(); m++) {
            String[] shapes = shapes(m);
            if (shapes == null) {
                return -fault;
            }
            for (int p = 0; p < shapes.length; p++) {
                if (shapes[p] != null && methods.get(m).code.get(p)[0] == 28) {
                    found.add(m + "." + p);
                }
            }
        }
        if (found.size() > 25) {
            String[] at = found.get(25).split("\\.");
            return failed(6, Integer.parseInt(at[0]), Integer.parseInt(at[1]));
        }
        sites = found;
        built = true;
        return found.size();
    }

    private static String kinds(Method m) {
        StringBuilder text = new StringBuilder();
        for (int i = 0; i < m.arguments; i++) {
            text.append(m.array(i) ? 'r' : 'i');
        }
        return text.toString();
    }

    private String[] shapes(int m) {
        Method method = methods.get(m);
        int length = method.code.size();
        if (length == 0) {
            failed(4, m, 0);
            return null;
        }
        String[] shapes = new String[length];
        boolean[] done = new boolean[length];
        shapes[0] = "";
        while (true) {
            int p = 0;
            while (p < length && (shapes[p] == null || done[p])) {
                p++;
            }
            if (p == length) {
                return shapes;
            }
            done[p] = true;
            int op = method.code.get(p)[0];
            int a = method.code.get(p)[1];
            String taken = TAKEN[op].replace('j', 'i');
            if (op == 2) {
                taken = method.array(a) ? "r" : "i";
            } else if (op == 32) {
                taken = kinds(methods.get(a));
            } else if (op == 33) {
                taken = new String[] {"", "i", "r"}[method.result];
            }
            String shape = shapes[p];
            int rest = shape.length() - taken.length();
            boolean fits = rest >= 0;
            for (int i = 0; fits && i < taken.length(); i++) {
                fits = taken.charAt(i) == 'v' || taken.charAt(i) == shape.charAt(rest + i);
            }
            if (!fits) {
                failed(2, m, p);
                return null;
            }
            String top = shape.substring(rest);
            String next = shape.substring(0, rest) + put(method, op, a, top);
            if (next.length() > 8) {
                failed(3, m, p);
                return null;
            }
            List<Integer> ways = new ArrayList<>();
            if (op != 19 && op != 33) {
                ways.add(p + 1);
            }
            if (op >= 19 && op <= 27) {
                ways.add(a);
            }
            for (int way : ways) {
                if (way == length) {
                    failed(4, m, p);
                    return null;
                }
                if (shapes[way] != null && !shapes[way].equals(next)) {
                    failed(5, m, p);
                    return null;
                }
                shapes[way] = next;
            }
        }
    }

    private String put(Method method, int op, int a, String top) {
        if (op == 1) {
            return method.array(a) ? "r" : "i";
        }
        if (op == 5) {
            return top + top;
        }
        if (op == 6) {
            return "" + top.charAt(1) + top.charAt(0);
        }
        if (op == 3 || op == 28) {
            return "r";
        }
        if (op == 32) {
            return new String[] {"", "i", "r"}[methods.get(a).result];
        }
        boolean gives = op == 0 || (op >= 7 && op <= 18) || op == 29 || op == 30 || op == 34;
        return gives ? "i" : "";
    }

    int faultAt(int what) {
        return what == 0 ? faultMethod : what == 1 ? faultPlace : NONE;
    }

    // ---------------------------------------------------------------- the step

    /** What a STEP brings: to which name, what. */
    record Coming(String name, State what) { }

    static String place(int m, int p) {
        return "state " + m + "." + p;
    }

    private State entry(int m, List<Val> given) {
        Method method = methods.get(m);
        List<Val> locals = new ArrayList<>(given);
        for (int i = given.size(); i < method.locals; i++) {
            locals.add(method.array(i) ? new SetOf(0, true) : ZERO);
        }
        return new State(locals, List.of(), List.of());
    }

    private Coming rootComing(int m) {
        List<Val> given = new ArrayList<>();
        for (int i = 0; i < methods.get(m).arguments; i++) {
            given.add(methods.get(m).array(i) ? new SetOf(1, true) : ALL);
        }
        return new Coming(place(m, 0), entry(m, given));
    }

    /** A STATE in the making. */
    private static final class Draft {
        final List<Val> locals;
        final List<Val> stack;
        final List<Integer> marks;
        int mark;

        Draft(State s) {
            locals = new ArrayList<>(s.locals);
            stack = new ArrayList<>(s.stack);
            marks = new ArrayList<>(s.marks);
        }

        Val pop() {
            mark = marks.remove(marks.size() - 1);
            return stack.remove(stack.size() - 1);
        }

        void push(Val v, int withMark) {
            stack.add(v);
            marks.add(withMark);
        }

        void hold(int ofMark, Val v) {
            if (ofMark == NONE) {
                return;
            }
            locals.set(ofMark, v);
            for (int i = 0; i < stack.size(); i++) {
                if (marks.get(i) == ofMark) {
                    stack.set(i, v);
                }
            }
        }

        State state() {
            return new State(List.copyOf(locals), List.copyOf(stack), List.copyOf(marks));
        }
    }

    private interface Taker {
        void take(String name, State what);
    }

    private void step(int m, int p, State from, Map<String, State> facts, Taker taker) {
        int op = methods.get(m).code.get(p)[0];
        int a = methods.get(m).code.get(p)[1];
        Draft d = new Draft(from);
        String next = place(m, p + 1);
        if (op >= 7 && op <= 18) {
            Span y = (Span) d.pop();
            int mark = d.mark;
            Span x = op == 18 ? null : (Span) d.pop();
            if (op == 10 || op == 11) {
                y = lose(y, 0);
                if (y == null) {
                    return;
                }
                d.hold(mark, y);
            }
            d.push(op == 18 ? arithmetic(8, ZERO, y) : arithmetic(op, x, y), NONE);
        } else if (op >= 20 && op <= 25) {
            Span y = (Span) d.pop();
            int my = d.mark;
            Span x = (Span) d.pop();
            int mx = d.mark;
            compare(d, new int[] {op, mx, my}, x, y, place(m, a), taker);
            compare(d, new int[] {op % 2 == 0 ? op + 1 : op - 1, mx, my}, x, y, next, taker);
            return;
        } else if (op == 26 || op == 27) {
            SetOf r = (SetOf) d.pop();
            nullWay(d, op == 26, r, d.mark, place(m, a), taker);
            nullWay(d, op == 27, r, d.mark, next, taker);
            return;
        } else if (op >= 28 && op <= 31) {
            if (!arrays(d, op, sites.indexOf(m + "." + p), facts, taker)) {
                return;
            }
        } else if (op == 32) {
            List<Val> given = new ArrayList<>();
            for (int i = 0; i < methods.get(a).arguments; i++) {
                given.add(0, d.pop());
            }
            taker.take(place(a, 0), entry(a, given));
            State back = facts.get("result " + a);
            if (back == null) {
                return;
            }
            if (!back.locals.isEmpty()) {
                d.push(back.lone(), NONE);
            }
        } else if (op == 33) {
            taker.take("result " + m, State.alone(methods.get(m).result == 0 ? null : d.pop()));
            return;
        } else if (op == 34) {
            d.push(facts.get("field " + a).lone(), NONE);
        } else if (op == 35) {
            taker.take("field " + a, State.alone(d.pop()));
        } else {
            simple(d, op, a);
            if (op == 19) {
                next = place(m, a);
            }
        }
        taker.take(next, d.state());
    }

    private static void simple(Draft d, int op, int a) {
        switch (op) {
            case 0 -> d.push(one(a), NONE);
            case 1 -> d.push(d.locals.get(a), a);
            case 2 -> {
                d.locals.set(a, d.pop());
                d.marks.replaceAll(k -> k == a ? NONE : k);
            }
            case 3 -> d.push(new SetOf(0, true), NONE);
            case 4 -> d.pop();
            case 5 -> {
                Val v = d.pop();
                int k = d.mark;
                d.push(v, k);
                d.push(v, k);
            }
            case 6 -> {
                Val w = d.pop();
                int mw = d.mark;
                Val v = d.pop();
                int mv = d.mark;
                d.push(w, mw);
                d.push(v, mv);
            }
            default -> { }
        }
    }

    private static void compare(Draft before, int[] opAndMarks, Span x, Span y, String to, Taker taker) {
        Span nx;
        Span ny;
        switch (opAndMarks[0]) {
            case 20 -> {
                nx = within(x, y.low, y.high);
                ny = within(y, x.low, x.high);
            }
            case 21 -> {
                nx = y.single() ? lose(x, y.low) : x;
                ny = x.single() ? lose(y, x.low) : y;
            }
            case 22 -> {
                nx = within(x, MIN, y.high - 1);
                ny = within(y, x.low + 1, MAX);
            }
            case 23 -> {
                nx = within(x, y.low, MAX);
                ny = within(y, MIN, x.high);
            }
            case 24 -> {
                nx = within(x, y.low + 1, MAX);
                ny = within(y, MIN, x.high - 1);
            }
            default -> {
                nx = within(x, MIN, y.high);
                ny = within(y, x.low, MAX);
            }
        }
        if (nx == null || ny == null) {
            return;
        }
        Draft d = new Draft(before.state());
        int mx = opAndMarks[1];
        int my = opAndMarks[2];
        if (mx == my) {
            Span same = within(nx, ny.low, ny.high);
            if (mx != NONE && same == null) {
                return;
            }
            d.hold(mx, same);
        } else {
            d.hold(mx, nx);
            d.hold(my, ny);
        }
        taker.take(to, d.state());
    }

    private static void nullWay(Draft before, boolean isNull, SetOf r, int mark, String to, Taker taker) {
        if (isNull ? !r.orNull : r.sites == 0) {
            return;
        }
        Draft d = new Draft(before.state());
        d.hold(mark, isNull ? new SetOf(0, true) : new SetOf(r.sites, false));
        taker.take(to, d.state());
    }

    private static Val ofSites(Map<String, State> facts, String what, SetOf r) {
        Val all = null;
        for (int s = 0; s < 25; s++) {
            State state = facts.get(what + " " + s);
            if ((r.sites & 1 << s) != 0 && state != null) {
                all = both(all, state.lone());
            }
        }
        return all;
    }

    private static boolean arrays(Draft d, int op, int s, Map<String, State> facts, Taker taker) {
        if (op == 28) {
            Span i = within((Span) d.pop(), 0, MAX);
            if (i == null) {
                return false;
            }
            d.hold(d.mark, i);
            taker.take("length " + s, State.alone(i));
            taker.take("element " + s, State.alone(ZERO));
            d.push(new SetOf(1 << s, false), NONE);
            return true;
        }
        Span j = op == 31 ? (Span) d.pop() : null;
        Span i = op == 29 ? null : (Span) d.pop();
        int mi = op == 29 ? NONE : d.mark;
        SetOf r = new SetOf(((SetOf) d.pop()).sites, false);
        int mr = d.mark;
        Span length = (Span) ofSites(facts, "length", r);
        Span element = (Span) ofSites(facts, "element", r);
        if (r.sites == 0 || length == null) {
            return false;
        }
        if (op != 29) {
            i = within(i, 0, length.high - 1);
            if (i == null || (op == 30 && element == null)) {
                return false;
            }
            d.hold(mi, i);
        }
        d.hold(mr, r);
        if (op == 29) {
            d.push(length, NONE);
        } else if (op == 30) {
            d.push(element, NONE);
        } else {
            for (int k = 0; k < 25; k++) {
                if ((r.sites & 1 << k) != 0) {
                    taker.take("element " + k, State.alone(j));
                }
            }
        }
        return true;
    }

    // ---------------------------------------------------------------- the analysis

    private static Map<String, State> atFirst() {
        Map<String, State> facts = new TreeMap<>();
        for (int f = 0; f < 4; f++) {
            facts.put("field " + f, State.alone(ZERO));
        }
        facts.put("length 0", State.alone(new Span(0, MAX, 1)));
        facts.put("element 0", State.alone(ALL));
        return facts;
    }

    private boolean wide(String name) {
        if (!name.startsWith("state ")) {
            return true;
        }
        String[] at = name.substring(6).split("\\.");
        int p = Integer.parseInt(at[1]);
        List<int[]> code = methods.get(Integer.parseInt(at[0])).code;
        boolean wide = p == 0;
        for (int q = p; q < code.size(); q++) {
            wide |= code.get(q)[0] >= 19 && code.get(q)[0] <= 27 && code.get(q)[1] == p;
        }
        return wide;
    }

    private final Map<String, Integer> changes = new TreeMap<>();
    private boolean stirred;

    private void grow(Map<String, State> facts, String name, State what) {
        State was = facts.get(name);
        if (was == null) {
            facts.put(name, what);
            stirred = true;
            return;
        }
        State is = both(was, what);
        if (is.equals(was)) {
            return;
        }
        int count = changes.merge(name, 1, Integer::sum);
        facts.put(name, count >= 4 && wide(name) ? spread(was, is) : is);
        stirred = true;
    }

    private boolean isRoot(int m) {
        return (roots >> m & 1) == 1;
    }

    private void pass(Map<String, State> facts, Taker taker) {
        for (int m = 0; m < methods.size(); m++) {
            if (isRoot(m)) {
                Coming c = rootComing(m);
                taker.take(c.name, c.what);
            }
        }
        for (int m = 0; m < methods.size(); m++) {
            for (int p = 0; p < methods.get(m).code.size(); p++) {
                State s = facts.get(place(m, p));
                if (s != null) {
                    step(m, p, s, facts, taker);
                }
            }
        }
    }

    int analyze(int ofRoots) {
        if (!built || ofRoots < 0 || ofRoots >= 1 << methods.size()) {
            return NONE;
        }
        roots = ofRoots;
        changes.clear();
        Map<String, State> facts = atFirst();
        int passes = 0;
        do {
            stirred = false;
            passes++;
            pass(facts, (name, what) -> grow(facts, name, what));
        } while (stirred);
        Map<String, State> was = facts;
        for (int i = 0; i < 2; i++) {
            Map<String, State> is = atFirst();
            pass(was, (name, what) -> is.merge(name, what, Oracle::both));
            was = is;
        }
        certificate = was;
        return passes;
    }

    // ---------------------------------------------------------------- questions

    boolean reached(int m, int p) {
        return certificate != null && certificate.containsKey(place(m, p));
    }

    private static long part(Val v, int what) {
        if (v instanceof Span s) {
            return what == 0 ? s.low : what == 1 ? s.high : what == 2 ? s.stride : NO;
        }
        SetOf r = (SetOf) v;
        return what == 3 ? r.sites : what == 4 ? (r.orNull ? 1 : 0) : NO;
    }

    long state(int m, int p, int slot, int what) {
        State s = reached(m, p) ? certificate.get(place(m, p)) : null;
        if (s == null) {
            return NO;
        }
        if (slot >= 0 && slot < s.locals.size()) {
            return part(s.locals.get(slot), what);
        }
        if (slot >= 10 && slot < 10 + s.stack.size()) {
            return what == 5 ? s.marks.get(slot - 10) : part(s.stack.get(slot - 10), what);
        }
        return NO;
    }

    long site(int s, int what) {
        if (!built || s < 0 || s >= sites.size() || what < 0 || what > 7) {
            return NO;
        }
        if (what >= 6) {
            return s == 0 ? NONE : Integer.parseInt(sites.get(s).split("\\.")[what - 6]);
        }
        State state = certificate == null ? null : certificate.get((what < 3 ? "length " : "element ") + s);
        return state == null ? NO : part(state.lone(), what % 3);
    }

    long field(int f, int what) {
        return certificate == null || f < 0 || f > 3 ? NO : part(certificate.get("field " + f).lone(), what);
    }

    long result(int m, int what) {
        if (certificate == null || !isMethod(m)) {
            return NO;
        }
        State s = certificate.get("result " + m);
        if (what == 5) {
            return s == null ? 0 : 1;
        }
        return s == null || s.locals.isEmpty() ? NO : part(s.lone(), what);
    }

    private static final Map<Integer, String> CAN_BE = Map.of(10, "1", 11, "1", 28, "4", 29, "2", 30, "23", 31, "23");

    int verdict(int m, int p, int wrong) {
        if (certificate == null || !isPlace(m, p) || wrong < 1 || wrong > 4) {
            return NONE;
        }
        State s = certificate.get(place(m, p));
        if (s == null) {
            return 0;
        }
        int op = methods.get(m).code.get(p)[0];
        if (!CAN_BE.getOrDefault(op, "").contains("" + wrong)) {
            return 1;
        }
        int top = s.stack.size() - 1;
        if (wrong == 1 || wrong == 4) {
            Span v = (Span) s.stack.get(top);
            boolean never = wrong == 1 ? !v.has(0) : v.low >= 0;
            boolean always = wrong == 1 ? v.equals(ZERO) : v.high < 0;
            return never ? 1 : always ? 3 : 2;
        }
        SetOf r = (SetOf) s.stack.get(top - (op - 29));
        if (wrong == 2) {
            return !r.orNull ? 1 : r.sites == 0 ? 3 : 2;
        }
        Span i = (Span) s.stack.get(top - (op - 30));
        List<Span> lengths = new ArrayList<>();
        for (int k = 0; k < 25; k++) {
            State length = certificate.get("length " + k);
            if ((r.sites >> k & 1) == 1 && length != null) {
                lengths.add((Span) length.lone());
            }
        }
        if (lengths.isEmpty() || (i.low >= 0 && lengths.stream().allMatch(l -> i.high < l.low))) {
            return 1;
        }
        return i.high < 0 || lengths.stream().noneMatch(l -> i.low < l.high) ? 3 : 2;
    }

    int verdicts(int verdict) {
        if (certificate == null || verdict < 0 || verdict > 3) {
            return NONE;
        }
        int count = 0;
        for (int m = 0; m < methods.size(); m++) {
            for (int p = 0; p < methods.get(m).code.size(); p++) {
                for (char wrong : CAN_BE.getOrDefault(methods.get(m).code.get(p)[0], "").toCharArray()) {
                    count += verdict(m, p, wrong - '0') == verdict ? 1 : 0;
                }
            }
        }
        return count;
    }

    boolean plant(int m, int p, int slot, int low, int high) {
        if (low > high || state(m, p, slot, 0) == NO) {
            return false;
        }
        Draft d = new Draft(certificate.get(place(m, p)));
        if (slot < 10) {
            d.locals.set(slot, span(low, high, 1));
        } else {
            d.stack.set(slot - 10, span(low, high, 1));
        }
        certificate.put(place(m, p), d.state());
        return true;
    }

    boolean forgetState(int m, int p) {
        return certificate != null && certificate.remove(place(m, p)) != null;
    }

    private boolean holds(String name, State what) {
        State there = certificate.get(name);
        return there != null && both(there, what).equals(there);
    }

    int check() {
        if (certificate == null) {
            return NONE;
        }
        for (int m = 0; m < methods.size(); m++) {
            if (isRoot(m) && !holds(rootComing(m).name, rootComing(m).what)) {
                return -1000 - m;
            }
        }
        for (int m = 0; m < methods.size(); m++) {
            for (int p = 0; p < methods.get(m).code.size(); p++) {
                State s = certificate.get(place(m, p));
                boolean[] fine = {true};
                if (s != null) {
                    step(m, p, s, certificate, (name, what) -> fine[0] &= holds(name, what));
                }
                if (!fine[0]) {
                    return -2000 - 100 * m - p;
                }
            }
        }
        return 1;
    }

    // ---------------------------------------------------------------- runs

    private final List<Object> given = new ArrayList<>();
    private static final Object NULL = new Object();
    private final long[] ran = new long[8];
    private int outside = NONE;

    int argument(int kind, int v) {
        if (given.size() == 3 || kind < 0 || kind > 2 || (kind == 1 && (v < 0 || v > 200))) {
            return NONE;
        }
        given.add(kind == 0 ? (Object) v : kind == 1 ? new int[v] : NULL);
        return given.size();
    }

    int fill(int k, int i, int v) {
        if (k < 0 || k >= given.size() || !(given.get(k) instanceof int[] a) || i < 0 || i >= a.length) {
            return NONE;
        }
        a[i] = v;
        return 1;
    }

    int forget() {
        int had = given.size();
        given.clear();
        return had;
    }

    private static final class Arr {
        final int site;
        final int[] ints;

        Arr(int site, int[] ints) {
            this.site = site;
            this.ints = ints;
        }
    }

    private static final class Frame {
        int m;
        int p;
        final List<Object> locals = new ArrayList<>();
        final List<Object> stack = new ArrayList<>();

        Object pop() {
            return stack.remove(stack.size() - 1);
        }

        int popInt() {
            return (Integer) pop();
        }

        Arr popArr() {
            return (Arr) pop();
        }
    }

    private List<Frame> frames;
    private List<Arr> heap;
    private int[] fields;

    private Frame open(int m, List<Object> with) {
        Frame f = new Frame();
        f.m = m;
        f.locals.addAll(with);
        for (int i = with.size(); i < methods.get(m).locals; i++) {
            f.locals.add(methods.get(m).array(i) ? null : (Object) 0);
        }
        frames.add(f);
        ran[5] = Math.max(ran[5], frames.size());
        return f;
    }

    int run(int m, int n) {
        if (!built || !isMethod(m) || n < 0 || n > 20000 || given.size() != methods.get(m).arguments) {
            return NONE;
        }
        for (int i = 0; i < given.size(); i++) {
            if (given.get(i) instanceof Integer == methods.get(m).array(i)) {
                return NONE;
            }
        }
        Arrays.fill(ran, 0);
        outside = NONE;
        frames = new ArrayList<>();
        heap = new ArrayList<>();
        fields = new int[4];
        List<Object> with = new ArrayList<>();
        for (Object o : given) {
            if (o instanceof int[] a) {
                heap.add(new Arr(0, a.clone()));
                with.add(heap.get(heap.size() - 1));
            } else {
                with.add(o == NULL ? null : o);
            }
        }
        open(m, with);
        ran[3] = m;
        int end = 0;
        while (end == 0) {
            if (ran[2] == n) {
                end = 3;
                break;
            }
            Frame f = frames.get(frames.size() - 1);
            if (certificate != null && outside == NONE && !told(f)) {
                outside = (int) ran[2];
            }
            ran[2]++;
            ran[3] = f.m;
            ran[4] = f.p;
            int w = perform(f);
            if (w > 0) {
                ran[1] = w;
                end = 2;
            } else if (frames.isEmpty()) {
                end = 1;
            }
        }
        ran[6] = fields[0];
        ran[7] = heap.size();
        return end;
    }

    private static boolean told(Val by, Object v) {
        if (by instanceof Span s) {
            return s.has((Integer) v);
        }
        SetOf r = (SetOf) by;
        return v == null ? r.orNull : (r.sites >> ((Arr) v).site & 1) == 1;
    }

    private boolean told(String name, int v) {
        return certificate.containsKey(name) && told(certificate.get(name).lone(), v);
    }

    private boolean told(Frame f) {
        State s = certificate.get(place(f.m, f.p));
        if (s == null) {
            return false;
        }
        boolean fine = true;
        for (int i = 0; i < f.locals.size(); i++) {
            fine &= told(s.locals.get(i), f.locals.get(i));
        }
        for (int i = 0; i < f.stack.size(); i++) {
            fine &= told(s.stack.get(i), f.stack.get(i));
        }
        for (int i = 0; i < 4; i++) {
            fine &= told("field " + i, fields[i]);
        }
        for (Arr a : heap) {
            fine &= told("length " + a.site, a.ints.length);
            for (int v : a.ints) {
                fine &= told("element " + a.site, v);
            }
        }
        return fine;
    }

    private int perform(Frame f) {
        int op = methods.get(f.m).code.get(f.p)[0];
        int a = methods.get(f.m).code.get(f.p)[1];
        int at = f.p++;
        if (op >= 7 && op <= 17) {
            int j = f.popInt();
            int i = f.popInt();
            if ((op == 10 || op == 11) && j == 0) {
                return 1;
            }
            f.stack.add(switch (op) {
                case 7 -> i + j;
                case 8 -> i - j;
                case 9 -> i * j;
                case 10 -> i / j;
                case 11 -> i % j;
                case 12 -> i & j;
                case 13 -> i | j;
                case 14 -> i ^ j;
                case 15 -> i << (j & 31);
                case 16 -> i >> (j & 31);
                default -> i >>> (j & 31);
            });
            return 0;
        }
        if (op >= 20 && op <= 25) {
            int j = f.popInt();
            int i = f.popInt();
            int c = Integer.compare(i, j);
            boolean goes = switch (op) {
                case 20 -> c == 0;
                case 21 -> c != 0;
                case 22 -> c < 0;
                case 23 -> c >= 0;
                case 24 -> c > 0;
                default -> c <= 0;
            };
            f.p = goes ? a : f.p;
            return 0;
        }
        switch (op) {
            case 0 -> f.stack.add(a);
            case 1 -> f.stack.add(f.locals.get(a));
            case 2 -> f.locals.set(a, f.pop());
            case 3 -> f.stack.add(null);
            case 4 -> f.pop();
            case 5 -> f.stack.add(f.stack.get(f.stack.size() - 1));
            case 6 -> {
                Object top = f.pop();
                f.stack.add(f.stack.size() - 1, top);
            }
            case 18 -> f.stack.add(-f.popInt());
            case 19 -> f.p = a;
            case 26 -> f.p = f.pop() == null ? a : f.p;
            case 27 -> f.p = f.pop() != null ? a : f.p;
            case 34 -> f.stack.add(fields[a]);
            case 35 -> fields[a] = f.popInt();
            case 33 -> returnFrom(f);
            case 32 -> {
                if (frames.size() == 16) {
                    return 5;
                }
                List<Object> with = new ArrayList<>();
                for (int i = 0; i < methods.get(a).arguments; i++) {
                    with.add(0, f.pop());
                }
                open(a, with);
            }
            default -> {
                return useArrays(f, op, at);
            }
        }
        return 0;
    }

    private void returnFrom(Frame f) {
        frames.remove(frames.size() - 1);
        if (methods.get(f.m).result == 0) {
            return;
        }
        Object v = f.pop();
        if (!frames.isEmpty()) {
            frames.get(frames.size() - 1).stack.add(v);
        } else {
            ran[0] = v == null ? -1 : v instanceof Arr r ? r.ints.length : (Integer) v;
        }
    }

    private int useArrays(Frame f, int op, int at) {
        if (op == 28) {
            int n = f.popInt();
            if (n < 0) {
                return 4;
            }
            long ints = n;
            for (Arr a : heap) {
                ints += a.ints.length;
            }
            if (heap.size() == 300 || ints > 2000) {
                return 6;
            }
            heap.add(new Arr(sites.indexOf(f.m + "." + at), new int[n]));
            f.stack.add(heap.get(heap.size() - 1));
            return 0;
        }
        int j = op == 31 ? f.popInt() : 0;
        int i = op >= 30 ? f.popInt() : 0;
        Arr r = f.popArr();
        if (r == null) {
            return 2;
        }
        if (op == 29) {
            f.stack.add(r.ints.length);
            return 0;
        }
        if (i < 0 || i >= r.ints.length) {
            return 3;
        }
        if (op == 30) {
            f.stack.add(r.ints[i]);
        } else {
            r.ints[i] = j;
        }
        return 0;
    }

    long ran(int what) {
        return what < 0 || what > 7 ? NO : ran[what];
    }

    int outside() {
        return outside;
    }
}
