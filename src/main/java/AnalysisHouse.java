import java.util.Arrays;

/**
 * Tells of programs of a small stack machine what can not go wrong: it builds them, analyses them to a
 * certificate, checks certificates, and holds runs against them. The words in capitals are those of DOC.md.
 */
public final class AnalysisHouse {
    public static final int NONE = -1;
    public static final long NO = -4611686018427387904L;

    private static final int MOST_METHODS = 8;
    private static final int MOST_CODE = 60;
    private static final int MOST_LOCALS = 6;
    private static final int MOST_STACK = 8;
    private static final int MOST_ARGUMENTS = 3;
    private static final int MOST_SITES = 25;
    private static final int FIELDS = 4;
    private static final int SLOTS = MOST_LOCALS + MOST_STACK;
    private static final int PLACES = MOST_METHODS * MOST_CODE;
    private static final int LAST_OP = 35;
    private static final int STACK_SLOT = 10;
    private static final int MOST_STEPS = 20000;
    private static final int FRAMES = 16;
    private static final int MOST_ARRAYS = 300;
    private static final int MOST_INTS = 2000;
    private static final int MOST_ARGUMENT_LENGTH = 200;
    /** Far above what the ledges and strides leave room for; only there so that the loop's end can be seen. */
    private static final int MOST_PASSES = 1000000;
    private static final long LEAST = -2147483648L;
    private static final long GREATEST = 2147483647L;
    private static final long WORLD = 4294967296L;

    private static final int OUTSIDE = 0;
    private static final int GROW = 0;
    private static final int ANEW = 1;
    private static final int LOOK = 2;

    private static final int KIND_INT = 0;
    private static final int KIND_ARRAY = 1;
    private static final int KIND_NULL = 2;

    private static final int RESULT_NONE = 0;
    private static final int RESULT_ARRAY = 2;

    private static final int RETURNED = 1;
    private static final int WENT_WRONG = 2;
    private static final int ONE_MORE_DUE = 3;

    private static final int CONSTANT = 0;
    private static final int LOAD = 1;
    private static final int STORE = 2;
    private static final int NULL = 3;
    private static final int DROP = 4;
    private static final int TWICE = 5;
    private static final int SWAP = 6;
    private static final int ADD = 7;
    private static final int SUBTRACT = 8;
    private static final int MULTIPLY = 9;
    private static final int DIVIDE = 10;
    private static final int REMAINDER = 11;
    private static final int AND = 12;
    private static final int OR = 13;
    private static final int XOR = 14;
    private static final int SHIFT_LEFT = 15;
    private static final int SHIFT_RIGHT = 16;
    private static final int SHIFT_BARE = 17;
    private static final int NEGATE = 18;
    private static final int GO = 19;
    private static final int IF_EQUAL = 20;
    private static final int IF_NOT_EQUAL = 21;
    private static final int IF_LESS = 22;
    private static final int IF_NOT_LESS = 23;
    private static final int IF_MORE = 24;
    private static final int IF_NOT_MORE = 25;
    private static final int IF_NULL = 26;
    private static final int IF_NOT_NULL = 27;
    private static final int MAKE_ARRAY = 28;
    private static final int LENGTH = 29;
    private static final int GET = 30;
    private static final int PUT = 31;
    private static final int CALL = 32;
    private static final int RETURN = 33;
    private static final int GET_FIELD = 34;
    private static final int PUT_FIELD = 35;

    private static final long[] LEDGES = {
        -2147483648L, -32768L, -128L, -1L, 0L, 1L, 127L, 255L, 32767L, 65535L, 2147483647L
    };

    /**
     * What each INSTRUCTION takes, two bits a value, the top lowest: 1 an INT, 2 an ARRAY, 3 either. STORE, CALL
     * and RETURN take what their METHOD tells, so they have none here.
     */
    private static final int[] TAKES = {
        0, 0, 0, 0, 3, 3, 15, 5, 5, 5, 5, 5, 5, 5, 5, 5, 5, 5,
        1, 0, 5, 5, 5, 5, 5, 5, 2, 2, 1, 2, 9, 37, 0, 0, 0, 1
    };

    private final Program program;
    private final Building building;
    private final Facts certificate;
    private final Facts other;
    private final Stepper stepper;
    private final Judge judge;
    private final Given given;
    private final Machine machine;
    private boolean certified;
    private int certifiedRoots;

    public AnalysisHouse() {
        program = new Program();
        building = new Building(program);
        certificate = new Facts();
        other = new Facts();
        stepper = new Stepper(program, building, certificate);
        judge = new Judge(program, certificate);
        given = new Given();
        machine = new Machine(program, building, certificate, given);
        certified = false;
        certifiedRoots = 0;
    }

    public int method(int arguments, int locals, int kinds, int result) {
        int m = program.addMethod(arguments, locals, kinds, result);
        if (m != NONE) {
            takeAway();
        }
        return m;
    }

    public int code(int m, int op, int a) {
        int place = program.addInstruction(m, op, a);
        if (place != NONE) {
            takeAway();
        }
        return place;
    }

    public int wipe(int m) {
        int had = program.clear(m);
        if (had != NONE) {
            takeAway();
        }
        return had;
    }

    public int build() {
        takeAway();
        return building.make();
    }

    public int faultAt(int what) {
        if (building.fault == 0) {
            return NONE;
        }
        if (what == 0) {
            return building.faultMethod;
        }
        return what == 1 ? building.faultPlace : NONE;
    }

    public int analyze(int roots) {
        if (!building.made || roots < 0 || roots >= 1 << program.count) {
            return NONE;
        }
        certificate.begin();
        stepper.prepare(GROW, certificate, certificate);
        int passes = 0;
        boolean more = true;
        while (more && passes < MOST_PASSES) {
            stepper.changed = false;
            pass(roots);
            passes++;
            more = stepper.changed;
        }
        other.begin();
        stepper.prepare(ANEW, certificate, other);
        pass(roots);
        certificate.begin();
        stepper.prepare(ANEW, other, certificate);
        pass(roots);
        certified = true;
        certifiedRoots = roots;
        return passes;
    }

    public boolean reached(int m, int place) {
        return certified && program.hasPlace(m, place) && certificate.stateAt(m, place).told;
    }

    public long state(int m, int place, int slot, int what) {
        Value value = told(m, place, slot);
        if (value == null) {
            return NO;
        }
        if (what == 5) {
            return slot < STACK_SLOT ? NO : certificate.stateAt(m, place).markAt(indexOf(m, slot));
        }
        return value.part(what);
    }

    public long site(int s, int what) {
        if (s < 0 || s >= building.sites || !building.made) {
            return NO;
        }
        if (what == 6) {
            return building.siteMethod(s);
        }
        if (what == 7) {
            return building.sitePlace(s);
        }
        if (!certified || what < 0 || what > 5) {
            return NO;
        }
        Row row = what < 3 ? certificate.lengthOf(s) : certificate.elementOf(s);
        return row.told ? row.valueAt(0).part(what < 3 ? what : what - 3) : NO;
    }

    public long field(int f, int what) {
        if (!certified || f < 0 || f >= FIELDS) {
            return NO;
        }
        return certificate.fieldOf(f).valueAt(0).part(what);
    }

    public long result(int m, int what) {
        if (!certified || !program.hasMethod(m)) {
            return NO;
        }
        Row row = certificate.resultOf(m);
        if (what == 5) {
            return row.told ? 1 : 0;
        }
        return row.told && row.size > 0 ? row.valueAt(0).part(what) : NO;
    }

    public int verdict(int m, int place, int wrong) {
        if (!certified || !program.hasPlace(m, place) || wrong < 1 || wrong > 4) {
            return NONE;
        }
        return judge.judge(m, place, wrong);
    }

    public int verdicts(int verdict) {
        if (!certified || verdict < 0 || verdict > 3) {
            return NONE;
        }
        int count = 0;
        for (int m = 0; m < program.count; m++) {
            for (int place = 0; place < program.lengthOf(m); place++) {
                count += judge.howMany(m, place, verdict);
            }
        }
        return count;
    }

    public boolean plant(int m, int place, int slot, int low, int high) {
        Value value = told(m, place, slot);
        if (value == null || value.array || low > high) {
            return false;
        }
        value.beSpan(low, high, 1);
        return true;
    }

    public boolean forgetState(int m, int place) {
        if (!reached(m, place)) {
            return false;
        }
        certificate.stateAt(m, place).told = false;
        return true;
    }

    public int check() {
        if (!certified) {
            return NONE;
        }
        stepper.prepare(LOOK, certificate, certificate);
        for (int m = 0; m < program.count; m++) {
            if (isRoot(certifiedRoots, m)) {
                stepper.enterRoot(m);
                if (stepper.changed) {
                    return -1000 - m;
                }
            }
        }
        for (int m = 0; m < program.count; m++) {
            for (int place = 0; place < program.lengthOf(m); place++) {
                stepper.step(m, place);
                if (stepper.changed) {
                    return -2000 - 100 * m - place;
                }
            }
        }
        return 1;
    }

    public int argument(int kind, int v) {
        return given.add(kind, v);
    }

    public int fill(int k, int i, int v) {
        return given.put(k, i, v);
    }

    public int forget() {
        int had = given.count;
        given.count = 0;
        return had;
    }

    public int run(int m, int n) {
        if (!building.made || !program.hasMethod(m) || n < 0 || n > MOST_STEPS || !given.fits(program, m)) {
            return NONE;
        }
        return machine.make(m, n, certified);
    }

    public long ran(int what) {
        return machine.told(what);
    }

    public int outside() {
        return machine.strayedAt;
    }

    private void takeAway() {
        building.made = false;
        certified = false;
    }

    private static boolean isRoot(int roots, int m) {
        return (roots >> m & 1) == 1;
    }

    private void pass(int roots) {
        for (int m = 0; m < program.count; m++) {
            if (isRoot(roots, m)) {
                stepper.enterRoot(m);
            }
        }
        for (int m = 0; m < program.count; m++) {
            for (int place = 0; place < program.lengthOf(m); place++) {
                stepper.step(m, place);
            }
        }
    }

    /** Where a slot, as state() counts them, lies in a STATE's row; NONE if the METHOD can not have it. */
    private int indexOf(int m, int slot) {
        int locals = program.localsOf(m);
        if (slot >= 0 && slot < locals) {
            return slot;
        }
        if (slot >= STACK_SLOT && slot < STACK_SLOT + MOST_STACK) {
            return locals + slot - STACK_SLOT;
        }
        return NONE;
    }

    private Value told(int m, int place, int slot) {
        if (!reached(m, place)) {
            return null;
        }
        Row row = certificate.stateAt(m, place);
        int index = indexOf(m, slot);
        return index == NONE || index >= row.size ? null : row.valueAt(index);
    }

    private static long gcd(long a, long b) {
        long x = a;
        long y = b;
        for (int i = 0; i < 100 && y != 0; i++) {
            long rest = x % y;
            x = y;
            y = rest;
        }
        return x;
    }

    /** A SPAN or a SET; a SPAN whose low is above its high, and a SET of neither null nor a SITE, is NOTHING. */
    private static final class Value {
        boolean array;
        long low;
        long high;
        long stride;
        int sites;
        boolean orNull;

        void copy(Value from) {
            array = from.array;
            low = from.low;
            high = from.high;
            stride = from.stride;
            sites = from.sites;
            orNull = from.orNull;
        }

        void beSpan(long least, long greatest, long step) {
            array = false;
            low = least;
            high = greatest;
            stride = least == greatest ? 0 : step;
            sites = 0;
            orNull = false;
        }

        void beSingle(long c) {
            beSpan(c, c, 0);
        }

        void beAll() {
            beSpan(LEAST, GREATEST, 1);
        }

        void beNothing() {
            beSpan(1, 0, 0);
        }

        /** A SPAN, by STRIDE 1, that has one more; what is NOTHING becomes that one alone. */
        void reach(long c) {
            boolean first = low > high;
            low = first || c < low ? c : low;
            high = first || c > high ? c : high;
            stride = low == high ? 0 : 1;
        }

        void beSet(int which, boolean mayBeNull) {
            array = true;
            low = 0;
            high = 0;
            stride = 0;
            sites = which;
            orNull = mayBeNull;
        }

        boolean isNothing() {
            return array ? sites == 0 && !orNull : low > high;
        }

        boolean isSingle() {
            return low == high;
        }

        boolean has(long c) {
            if (c < low || c > high) {
                return false;
            }
            return stride == 0 || (c - low) % stride == 0;
        }

        boolean covers(Value in) {
            if (array != in.array) {
                return false;
            }
            if (array) {
                return (in.sites & ~sites) == 0 && (orNull || !in.orNull);
            }
            if (in.low < low || in.high > high) {
                return false;
            }
            return stride == 0 || ((in.low - low) % stride == 0 && in.stride % stride == 0);
        }

        void both(Value in) {
            if (array) {
                sites |= in.sites;
                orNull |= in.orNull;
            } else if (isNothing()) {
                copy(in);
            } else {
                stride = gcd(gcd(stride, in.stride), Math.abs(low - in.low));
                low = Math.min(low, in.low);
                high = Math.max(high, in.high);
            }
        }

        void within(long a, long b) {
            long first = low;
            long last = high;
            if (a > low) {
                first = stride == 0 ? high + 1 : low + (a - low + stride - 1) / stride * stride;
            }
            if (b < high) {
                last = stride == 0 ? low - 1 : high - (high - b + stride - 1) / stride * stride;
            }
            boolean some = first <= last;
            low = some ? first : 1;
            high = some ? last : 0;
            stride = some && first < last ? stride : 0;
        }

        void loseAtEnds(long c) {
            if (low == c) {
                within(c + 1, GREATEST);
            }
            if (high == c) {
                within(LEAST, c - 1);
            }
        }

        /** The ends that are others than they were go on to a ledge, lest they creep on for ever. */
        void spread(long wasLow, long wasHigh) {
            if (array || stride == 0) {
                return;
            }
            if (low != wasLow) {
                long ledge = LEAST;
                for (int i = 0; i < LEDGES.length; i++) {
                    ledge = LEDGES[i] <= low ? LEDGES[i] : ledge;
                }
                low -= (low - ledge) / stride * stride;
            }
            if (high != wasHigh) {
                long ledge = GREATEST;
                for (int i = LEDGES.length - 1; i >= 0; i--) {
                    ledge = LEDGES[i] >= high ? LEDGES[i] : ledge;
                }
                high += (ledge - high) / stride * stride;
            }
        }

        /** What 0 to 4 of state(), of site(), field() and result() too. */
        long part(int what) {
            if (array) {
                if (what == 3) {
                    return sites;
                }
                return what == 4 ? (orNull ? 1 : 0) : NO;
            }
            switch (what) {
                case 0:
                    return low;
                case 1:
                    return high;
                case 2:
                    return stride;
                default:
                    return NO;
            }
        }
    }

    /**
     * A STATE (its LOCALS, right behind them its stack), or a row of one value: a LENGTH, an ELEMENT, a FIELD, a
     * RESULT (of no value where the METHOD has none). It is there when it is told.
     */
    private static final class Row {
        private final Value[] values;
        private final int[] marks;
        int size;
        boolean told;
        private int changes;

        Row(int most) {
            values = new Value[most];
            marks = new int[most];
            for (int i = 0; i < most; i++) {
                values[i] = new Value();
                marks[i] = NONE;
            }
        }

        boolean hasIndex(int i) {
            return i >= 0 && i < values.length;
        }

        Value valueAt(int i) {
            return hasIndex(i) ? values[i] : values[0];
        }

        int markAt(int i) {
            return hasIndex(i) ? marks[i] : NONE;
        }

        void markTop(int mark) {
            if (hasIndex(size - 1)) {
                marks[size - 1] = mark;
            }
        }

        void empty() {
            told = false;
            size = 0;
            changes = 0;
        }

        void copy(Row from) {
            size = Math.min(from.size, values.length);
            for (int i = 0; i < size; i++) {
                values[i].copy(from.values[i]);
                marks[i] = from.marks[i];
            }
        }

        /** A place more, without a MARK; a BUILD has seen to it that there is room. */
        Value push() {
            if (size < values.length) {
                size++;
            }
            markTop(NONE);
            return valueAt(size - 1);
        }

        /** Takes the top off into a value, and answers its MARK. */
        int pop(Value into) {
            if (size <= 0) {
                return NONE;
            }
            size--;
            into.copy(values[size]);
            return marks[size];
        }

        void swapTop() {
            if (size < 2) {
                return;
            }
            Value top = values[size - 1];
            values[size - 1] = values[size - 2];
            values[size - 2] = top;
            int mark = marks[size - 1];
            marks[size - 1] = marks[size - 2];
            marks[size - 2] = mark;
        }

        void dropMarks(int local) {
            for (int i = 0; i < size; i++) {
                if (marks[i] == local) {
                    marks[i] = NONE;
                }
            }
        }

        /** The LOCAL of a MARK and the places of the stack that have it hold the same: all become as the value. */
        void tell(int mark, Value value) {
            if (mark == NONE) {
                return;
            }
            valueAt(mark).copy(value);
            for (int i = 0; i < size; i++) {
                if (marks[i] == mark) {
                    values[i].copy(value);
                }
            }
        }

        boolean covers(Row in) {
            if (in.size != size) {
                return false;
            }
            for (int i = 0; i < size; i++) {
                if (!values[i].covers(in.values[i]) || (marks[i] != NONE && marks[i] != in.marks[i])) {
                    return false;
                }
            }
            return true;
        }

        /** BOTH of this row and what comes to it; answers whether that changed it, or it is first there. */
        boolean join(Row in, boolean widens) {
            if (!told) {
                copy(in);
                told = true;
                return true;
            }
            if (covers(in)) {
                return false;
            }
            changes++;
            boolean far = widens && changes >= 4;
            for (int i = 0; i < size && i < in.size; i++) {
                long low = values[i].low;
                long high = values[i].high;
                values[i].both(in.values[i]);
                if (far) {
                    values[i].spread(low, high);
                }
                if (marks[i] != in.marks[i]) {
                    marks[i] = NONE;
                }
            }
            return true;
        }
    }

    /** The METHODS and their CODES, as they are told. */
    private static final class Program {
        int count;
        private final int[] arguments = new int[MOST_METHODS];
        private final int[] locals = new int[MOST_METHODS];
        private final int[] kinds = new int[MOST_METHODS];
        private final int[] results = new int[MOST_METHODS];
        private final int[] lengths = new int[MOST_METHODS];
        private final int[] ops = new int[PLACES];
        private final int[] operands = new int[PLACES];

        int addMethod(int argumentCount, int localCount, int kindBits, int resultSort) {
            if (count >= MOST_METHODS || argumentCount < 0 || argumentCount > MOST_ARGUMENTS) {
                return NONE;
            }
            if (localCount < argumentCount || localCount > MOST_LOCALS || resultSort < 0 || resultSort > 2) {
                return NONE;
            }
            if (kindBits < 0 || kindBits >= 1 << localCount) {
                return NONE;
            }
            arguments[count] = argumentCount;
            locals[count] = localCount;
            kinds[count] = kindBits;
            results[count] = resultSort;
            lengths[count] = 0;
            count++;
            return count - 1;
        }

        int addInstruction(int m, int op, int a) {
            if (!hasMethod(m) || op < 0 || op > LAST_OP || lengths[m] >= MOST_CODE) {
                return NONE;
            }
            int place = lengths[m];
            ops[m * MOST_CODE + place] = op;
            operands[m * MOST_CODE + place] = a;
            lengths[m] = place + 1;
            return place;
        }

        int clear(int m) {
            if (!hasMethod(m)) {
                return NONE;
            }
            int had = lengths[m];
            lengths[m] = 0;
            return had;
        }

        boolean hasMethod(int m) {
            return m >= 0 && m < count;
        }

        boolean hasPlace(int m, int place) {
            return hasMethod(m) && place >= 0 && place < lengths[m];
        }

        int argumentsOf(int m) {
            return hasMethod(m) ? arguments[m] : 0;
        }

        int localsOf(int m) {
            return hasMethod(m) ? locals[m] : 0;
        }

        boolean holdsArray(int m, int local) {
            return hasMethod(m) && (kinds[m] >> local & 1) == 1;
        }

        int resultSort(int m) {
            return hasMethod(m) ? results[m] : RESULT_NONE;
        }

        int lengthOf(int m) {
            return hasMethod(m) ? lengths[m] : 0;
        }

        int opAt(int m, int place) {
            return hasPlace(m, place) ? ops[m * MOST_CODE + place] : NONE;
        }

        int operandAt(int m, int place) {
            return hasPlace(m, place) ? operands[m * MOST_CODE + place] : 0;
        }

        boolean hasOperand(int m, int op, int a) {
            if (op == LOAD || op == STORE) {
                return a >= 0 && a < localsOf(m);
            }
            if (op >= GO && op <= IF_NOT_NULL) {
                return hasPlace(m, a);
            }
            if (op == CALL) {
                return hasMethod(a);
            }
            return (op != GET_FIELD && op != PUT_FIELD) || (a >= 0 && a < FIELDS);
        }
    }

    /** A BUILD: SHAPES, SITES and the PLACES at which STATES widen; and the latest FAULT. */
    private static final class Building {
        boolean made;
        int sites;
        int fault;
        int faultMethod;
        int faultPlace;
        private final Program program;
        private final int[] depths = new int[PLACES];
        private final int[] shapes = new int[PLACES];
        private final boolean[] looked = new boolean[PLACES];
        private final boolean[] wide = new boolean[PLACES];
        private final int[] siteNumbers = new int[PLACES];
        private final int[] siteMethods = new int[MOST_SITES];
        private final int[] sitePlaces = new int[MOST_SITES];
        /** The SHAPE that is being worked out: how many lie there, and which of them are ARRAYS, as bits. */
        private int depth;
        private int shape;

        Building(Program all) {
            program = all;
        }

        int make() {
            fault = 0;
            faultMethod = NONE;
            faultPlace = NONE;
            sites = 1;
            findOperandFault();
            for (int m = 0; m < program.count && fault == 0; m++) {
                shapeMethod(m);
            }
            if (fault == 0) {
                findSites();
            }
            if (fault != 0) {
                return -fault;
            }
            findWidePlaces();
            made = true;
            return sites;
        }

        int siteMethod(int s) {
            return s > OUTSIDE && s < sites && s < MOST_SITES ? siteMethods[s] : NONE;
        }

        int sitePlace(int s) {
            return s > OUTSIDE && s < sites && s < MOST_SITES ? sitePlaces[s] : NONE;
        }

        int siteAt(int m, int place) {
            return program.hasPlace(m, place) ? siteNumbers[m * MOST_CODE + place] : OUTSIDE;
        }

        boolean isWide(int m, int place) {
            return program.hasPlace(m, place) && wide[m * MOST_CODE + place];
        }

        private void faultIs(int number, int m, int place) {
            fault = number;
            faultMethod = m;
            faultPlace = place;
        }

        private void findOperandFault() {
            for (int m = 0; m < program.count; m++) {
                for (int place = 0; place < program.lengthOf(m); place++) {
                    if (!program.hasOperand(m, program.opAt(m, place), program.operandAt(m, place))) {
                        faultIs(1, m, place);
                        return;
                    }
                }
            }
        }

        private void shapeMethod(int m) {
            int length = program.lengthOf(m);
            if (length == 0) {
                faultIs(4, m, 0);
                return;
            }
            for (int place = 0; place < length; place++) {
                depths[m * MOST_CODE + place] = NONE;
                looked[m * MOST_CODE + place] = false;
            }
            depths[m * MOST_CODE] = 0;
            shapes[m * MOST_CODE] = 0;
            int place = 0;
            for (int i = 0; i < MOST_CODE && place != NONE && fault == 0; i++) {
                lookAt(m, place);
                place = leastUnlooked(m, length);
            }
        }

        private int leastUnlooked(int m, int length) {
            for (int place = 0; place < length; place++) {
                if (depths[m * MOST_CODE + place] != NONE && !looked[m * MOST_CODE + place]) {
                    return place;
                }
            }
            return NONE;
        }

        private void lookAt(int m, int place) {
            int at = m * MOST_CODE + place;
            int op = program.opAt(m, place);
            int a = program.operandAt(m, place);
            looked[at] = true;
            depth = depths[at];
            shape = shapes[at];
            if (!takeShape(m, op, a)) {
                faultIs(2, m, place);
                return;
            }
            putShape(m, op, a);
            if (depth > MOST_STACK) {
                faultIs(3, m, place);
                return;
            }
            if (op != GO && op != RETURN) {
                shapeComes(m, place, place + 1);
            }
            if (op >= GO && op <= IF_NOT_NULL && fault == 0) {
                shapeComes(m, place, a);
            }
        }

        /** Takes a value off the SHAPE: 1 an INT, 2 an ARRAY, 3 either; answers whether it was there. */
        private boolean takeKind(int wanted) {
            if (depth <= 0) {
                return false;
            }
            depth--;
            int kind = (shape >> depth & 1) == 1 ? 2 : 1;
            shape &= ~(1 << depth);
            return (kind & wanted) != 0;
        }

        private void putKind(boolean array) {
            if (array) {
                shape |= 1 << depth;
            }
            depth++;
        }

        private boolean takeShape(int m, int op, int a) {
            if (op == STORE) {
                return takeKind(program.holdsArray(m, a) ? 2 : 1);
            }
            if (op == RETURN) {
                return program.resultSort(m) == RESULT_NONE || takeKind(program.resultSort(m));
            }
            if (op == CALL) {
                for (int i = program.argumentsOf(a) - 1; i >= 0; i--) {
                    if (!takeKind(program.holdsArray(a, i) ? 2 : 1)) {
                        return false;
                    }
                }
                return true;
            }
            // TWICE and SWAP need the KINDS that they find, so putShape() takes theirs off.
            if (op == TWICE || op == SWAP) {
                return depth >= (op == TWICE ? 1 : 2);
            }
            int takes = op >= 0 && op < TAKES.length ? TAKES[op] : 0;
            for (int rest = takes; rest > 0; rest >>= 2) {
                if (!takeKind(rest & 3)) {
                    return false;
                }
            }
            return true;
        }

        private void putShape(int m, int op, int a) {
            switch (op) {
                case LOAD:
                    putKind(program.holdsArray(m, a));
                    break;
                case TWICE:
                    putKind((shape >> (depth - 1) & 1) == 1);
                    break;
                case SWAP:
                    swapKinds();
                    break;
                case NULL:
                case MAKE_ARRAY:
                    putKind(true);
                    break;
                case CALL:
                    if (program.resultSort(a) != RESULT_NONE) {
                        putKind(program.resultSort(a) == RESULT_ARRAY);
                    }
                    break;
                case CONSTANT:
                case LENGTH:
                case GET:
                case GET_FIELD:
                    putKind(false);
                    break;
                default:
                    if (op >= ADD && op <= NEGATE) {
                        putKind(false);
                    }
                    break;
            }
        }

        private void swapKinds() {
            boolean top = (shape >> (depth - 1) & 1) == 1;
            boolean below = (shape >> (depth - 2) & 1) == 1;
            depth -= 2;
            shape &= (1 << depth) - 1;
            putKind(top);
            putKind(below);
        }

        private void shapeComes(int m, int place, int next) {
            if (!program.hasPlace(m, next)) {
                faultIs(4, m, place);
                return;
            }
            int at = m * MOST_CODE + next;
            if (depths[at] == NONE) {
                depths[at] = depth;
                shapes[at] = shape;
            } else if (depths[at] != depth || shapes[at] != shape) {
                faultIs(5, m, place);
            }
        }

        private void findSites() {
            for (int m = 0; m < program.count; m++) {
                for (int place = 0; place < program.lengthOf(m); place++) {
                    int at = m * MOST_CODE + place;
                    siteNumbers[at] = OUTSIDE;
                    if (program.opAt(m, place) != MAKE_ARRAY || depths[at] == NONE) {
                        continue;
                    }
                    if (sites >= MOST_SITES) {
                        faultIs(6, m, place);
                        return;
                    }
                    siteNumbers[at] = sites;
                    siteMethods[sites] = m;
                    sitePlaces[sites] = place;
                    sites++;
                }
            }
        }

        private void findWidePlaces() {
            for (int m = 0; m < program.count; m++) {
                for (int place = 0; place < program.lengthOf(m); place++) {
                    wide[m * MOST_CODE + place] = place == 0;
                }
                for (int place = 0; place < program.lengthOf(m); place++) {
                    int op = program.opAt(m, place);
                    int a = program.operandAt(m, place);
                    if (op >= GO && op <= IF_NOT_NULL && a <= place && program.hasPlace(m, a)) {
                        wide[m * MOST_CODE + a] = true;
                    }
                }
            }
        }
    }

    /** All that is told at once: STATES, and what is told of SITES, FIELDS and RESULTS. */
    private static final class Facts {
        private final Row[] states = new Row[PLACES];
        private final Row[] lengths = new Row[MOST_SITES];
        private final Row[] elements = new Row[MOST_SITES];
        private final Row[] fields = new Row[FIELDS];
        private final Row[] results = new Row[MOST_METHODS];

        Facts() {
            for (int i = 0; i < PLACES; i++) {
                states[i] = new Row(SLOTS);
            }
            for (int i = 0; i < MOST_SITES; i++) {
                lengths[i] = new Row(1);
                elements[i] = new Row(1);
            }
            for (int i = 0; i < FIELDS; i++) {
                fields[i] = new Row(1);
            }
            for (int i = 0; i < MOST_METHODS; i++) {
                results[i] = new Row(1);
            }
        }

        /** All is NOTHING but FIELDS and OUTSIDE. */
        void begin() {
            for (int i = 0; i < PLACES; i++) {
                states[i].empty();
            }
            for (int i = 0; i < MOST_SITES; i++) {
                lengths[i].empty();
                elements[i].empty();
            }
            for (int i = 0; i < MOST_METHODS; i++) {
                results[i].empty();
            }
            for (int i = 0; i < FIELDS; i++) {
                fields[i].empty();
                fields[i].told = true;
                fields[i].push().beSingle(0);
            }
            lengths[OUTSIDE].told = true;
            lengths[OUTSIDE].push().beSpan(0, GREATEST, 1);
            elements[OUTSIDE].told = true;
            elements[OUTSIDE].push().beAll();
        }

        Row stateAt(int m, int place) {
            boolean there = m >= 0 && m < MOST_METHODS && place >= 0 && place < MOST_CODE;
            return states[there ? m * MOST_CODE + place : 0];
        }

        Row lengthOf(int s) {
            return lengths[s >= 0 && s < MOST_SITES ? s : OUTSIDE];
        }

        Row elementOf(int s) {
            return elements[s >= 0 && s < MOST_SITES ? s : OUTSIDE];
        }

        Row fieldOf(int f) {
            return fields[f >= 0 && f < FIELDS ? f : 0];
        }

        Row resultOf(int m) {
            return results[m >= 0 && m < MOST_METHODS ? m : 0];
        }
    }

    /** What 7 to 18 make of SPANS x and y. */
    private static final class Reckoner {
        /** The parts of a divisor below and above 0; one of them may be NOTHING. */
        private final Value below = new Value();
        private final Value above = new Value();

        void reckon(int op, Value x, Value y, Value out) {
            switch (op) {
                case ADD:
                    turn(x.low + y.low, x.high + y.high, gcd(x.stride, y.stride), out);
                    break;
                case SUBTRACT:
                    turn(x.low - y.high, x.high - y.low, gcd(x.stride, y.stride), out);
                    break;
                case NEGATE:
                    turn(-x.high, -x.low, x.stride, out);
                    break;
                case MULTIPLY:
                    if (x.isSingle()) {
                        times(x.low, y, out);
                    } else if (y.isSingle()) {
                        times(y.low, x, out);
                    } else {
                        multiply(x, y, out);
                    }
                    break;
                case DIVIDE:
                    divide(x, y, out);
                    break;
                case REMAINDER:
                    remain(x, y, out);
                    break;
                case AND:
                case OR:
                case XOR:
                    combine(op, x, y, out);
                    break;
                case SHIFT_LEFT:
                    if (y.isSingle()) {
                        times(1L << (y.low & 31), x, out);
                    } else {
                        out.beAll();
                    }
                    break;
                case SHIFT_RIGHT:
                    shiftRight(x, y, out);
                    break;
                default:
                    shiftBare(x, y, out);
                    break;
            }
        }

        /** TURNED of the row low .. high by s. */
        private void turn(long low, long high, long s, Value out) {
            long first = (int) low;
            long last = first + (high - low);
            if (last <= GREATEST) {
                out.beSpan(first, last, s);
                return;
            }
            long step = Math.max(gcd(s, WORLD), 1);
            out.beSpan(LEAST + Math.floorMod(low - LEAST, step), GREATEST - Math.floorMod(GREATEST - low, step), step);
        }

        private void times(long c, Value x, Value out) {
            if (c == 0) {
                out.beSingle(0);
            } else if (c > 0) {
                turn(c * x.low, c * x.high, c * x.stride, out);
            } else {
                turn(c * x.high, c * x.low, -c * x.stride, out);
            }
        }

        private void multiply(Value x, Value y, Value out) {
            long a = x.low * y.low;
            long b = x.low * y.high;
            long c = x.high * y.low;
            long d = x.high * y.high;
            long least = Math.min(Math.min(a, b), Math.min(c, d));
            turn(least, Math.max(Math.max(a, b), Math.max(c, d)), 1, out);
        }

        private void splitDivisor(Value y) {
            below.copy(y);
            below.within(LEAST, -1);
            above.copy(y);
            above.within(1, GREATEST);
        }

        private void divide(Value x, Value y, Value out) {
            if (x.isSingle() && y.isSingle() && y.low != 0) {
                out.beSingle((int) (x.low / y.low));
                return;
            }
            if (x.low == LEAST && y.has(-1)) {
                out.beAll();
                return;
            }
            splitDivisor(y);
            out.beNothing();
            reachQuotients(x, below, out);
            reachQuotients(x, above, out);
        }

        private void reachQuotients(Value x, Value part, Value out) {
            if (part.isNothing() || part.low == 0 || part.high == 0) {
                return;
            }
            out.reach(x.low / part.low);
            out.reach(x.low / part.high);
            out.reach(x.high / part.low);
            out.reach(x.high / part.high);
        }

        private void remain(Value x, Value y, Value out) {
            if (x.isSingle() && y.isSingle() && y.low != 0) {
                out.beSingle(x.low % y.low);
                return;
            }
            splitDivisor(y);
            long n = WORLD;
            long m = 0;
            if (!below.isNothing()) {
                n = -below.high;
                m = -below.low;
            }
            if (!above.isNothing()) {
                n = Math.min(n, above.low);
                m = Math.max(m, above.high);
            }
            if (Math.max(Math.abs(x.low), Math.abs(x.high)) < n) {
                out.copy(x);
                return;
            }
            out.beSpan(x.low >= 0 ? 0 : Math.max(x.low, 1 - m), x.high <= 0 ? 0 : Math.min(x.high, m - 1), 1);
        }

        private void combine(int op, Value x, Value y, Value out) {
            if (x.isSingle() && y.isSingle()) {
                out.beSingle(op == AND ? x.low & y.low : op == OR ? x.low | y.low : x.low ^ y.low);
            } else if (op == AND && (x.low >= 0 || y.low >= 0)) {
                long most = x.low < 0 ? y.high : y.low < 0 ? x.high : Math.min(x.high, y.high);
                out.beSpan(0, most, 1);
            } else if (op != AND && x.low >= 0 && y.low >= 0) {
                long most = 0;
                for (int k = 0; k < 31 && most < Math.max(x.high, y.high); k++) {
                    most = most * 2 + 1;
                }
                out.beSpan(op == OR ? Math.max(x.low, y.low) : 0, most, 1);
            } else {
                out.beAll();
            }
        }

        private void shiftRight(Value x, Value y, Value out) {
            if (y.isSingle()) {
                int k = (int) (y.low & 31);
                out.beSpan(x.low >> k, x.high >> k, 1);
            } else {
                out.beSpan(Math.min(x.low, 0), x.high >= 0 ? x.high : -1, 1);
            }
        }

        private void shiftBare(Value x, Value y, Value out) {
            int k = (int) (y.low & 31);
            if (y.isSingle() && k == 0) {
                out.copy(x);
            } else if (x.low >= 0) {
                shiftRight(x, y, out);
            } else if (!y.isSingle()) {
                out.beAll();
            } else if (x.high < 0) {
                out.beSpan(x.low + WORLD >> k, x.high + WORLD >> k, 1);
            } else {
                out.beSpan(0, (1L << (32 - k)) - 1, 1);
            }
        }
    }

    /**
     * THE STEP, in three moods: GROW makes what comes part of the same facts, ANEW reads the facts that were and
     * writes new ones, LOOK only tells whether all that comes is there already.
     */
    private static final class Stepper {
        boolean changed;
        private final Program program;
        private final Building building;
        private final Reckoner reckoner = new Reckoner();
        private Facts from;
        private Facts to;
        private int mood;
        private int method;
        private int place;
        private final Row work = new Row(SLOTS);
        private final Row way = new Row(SLOTS);
        private final Row entry = new Row(SLOTS);
        private final Row lone = new Row(1);
        private final Value x = new Value();
        private final Value y = new Value();
        private final Value nextX = new Value();
        private final Value nextY = new Value();
        private final Value array = new Value();
        private final Value out = new Value();

        Stepper(Program all, Building shapes, Facts certificate) {
            program = all;
            building = shapes;
            from = certificate;
            to = certificate;
        }

        void prepare(int how, Facts old, Facts fresh) {
            mood = how;
            from = old;
            to = fresh;
            changed = false;
        }

        private void come(Row target, Row in, boolean widens) {
            if (mood == LOOK) {
                changed |= !target.told || !target.covers(in);
            } else {
                changed |= target.join(in, widens && mood == GROW);
            }
        }

        private Row alone(Value value) {
            lone.size = 0;
            lone.push().copy(value);
            return lone;
        }

        /** The LOCALS of a METHOD that begins, before its ARGUMENTS are put there. */
        private void openEntry(int m) {
            entry.size = 0;
            for (int i = 0; i < program.localsOf(m); i++) {
                Value value = entry.push();
                if (program.holdsArray(m, i)) {
                    value.beSet(0, true);
                } else {
                    value.beSingle(0);
                }
            }
        }

        void enterRoot(int m) {
            openEntry(m);
            for (int i = 0; i < program.argumentsOf(m); i++) {
                if (program.holdsArray(m, i)) {
                    entry.valueAt(i).beSet(1 << OUTSIDE, true);
                } else {
                    entry.valueAt(i).beAll();
                }
            }
            come(to.stateAt(m, 0), entry, true);
        }

        void step(int ofMethod, int atPlace) {
            Row here = from.stateAt(ofMethod, atPlace);
            if (!here.told) {
                return;
            }
            method = ofMethod;
            place = atPlace;
            work.copy(here);
            int op = program.opAt(method, place);
            int a = program.operandAt(method, place);
            boolean goesOn = false;
            if (op <= SWAP) {
                goesOn = move(op, a);
            } else if (op <= NEGATE) {
                goesOn = reckon(op);
            } else if (op == GO) {
                come(to.stateAt(method, a), work, building.isWide(method, a));
            } else if (op <= IF_NOT_MORE) {
                compare(op, a);
            } else if (op <= IF_NOT_NULL) {
                askNull(op, a);
            } else if (op == MAKE_ARRAY) {
                goesOn = makeArray();
            } else if (op <= PUT) {
                goesOn = useArray(op);
            } else if (op == CALL) {
                goesOn = enter(a);
            } else if (op == RETURN) {
                giveBack();
            } else {
                goesOn = useField(op, a);
            }
            if (goesOn) {
                come(to.stateAt(method, place + 1), work, building.isWide(method, place + 1));
            }
        }

        private boolean move(int op, int a) {
            switch (op) {
                case CONSTANT:
                    work.push().beSingle(a);
                    break;
                case LOAD:
                    work.push().copy(work.valueAt(a));
                    work.markTop(a);
                    break;
                case STORE:
                    work.pop(x);
                    work.valueAt(a).copy(x);
                    work.dropMarks(a);
                    break;
                case NULL:
                    work.push().beSet(0, true);
                    break;
                case DROP:
                    work.pop(x);
                    break;
                case TWICE:
                    int mark = work.pop(x);
                    work.push().copy(x);
                    work.markTop(mark);
                    work.push().copy(x);
                    work.markTop(mark);
                    break;
                default:
                    work.swapTop();
                    break;
            }
            return true;
        }

        private boolean reckon(int op) {
            y.beSingle(0);
            int markY = NONE;
            if (op != NEGATE) {
                markY = work.pop(y);
            }
            work.pop(x);
            if (op == DIVIDE || op == REMAINDER) {
                y.loseAtEnds(0);
                if (y.isNothing()) {
                    return false;
                }
                work.tell(markY, y);
            }
            reckoner.reckon(op, x, y, out);
            work.push().copy(out);
            return true;
        }

        private void compare(int op, int a) {
            int markY = work.pop(y);
            int markX = work.pop(x);
            narrow(op);
            if (opens(markX, markY)) {
                come(to.stateAt(method, a), way, building.isWide(method, a));
            }
            // the contrary of each comparison is its neighbour by the lowest bit
            narrow(op ^ 1);
            if (opens(markX, markY)) {
                come(to.stateAt(method, place + 1), way, building.isWide(method, place + 1));
            }
        }

        /** Makes the row way what it is where x and y are as narrowed; answers whether that can be. */
        private boolean opens(int markX, int markY) {
            if (nextX.isNothing() || nextY.isNothing()) {
                return false;
            }
            way.copy(work);
            if (markX != NONE && markX == markY) {
                nextX.within(nextY.low, nextY.high);
                way.tell(markX, nextX);
                return !nextX.isNothing();
            }
            way.tell(markX, nextX);
            way.tell(markY, nextY);
            return true;
        }

        private void narrow(int op) {
            nextX.copy(x);
            nextY.copy(y);
            switch (op) {
                case IF_EQUAL:
                    nextX.within(y.low, y.high);
                    nextY.within(x.low, x.high);
                    break;
                case IF_NOT_EQUAL:
                    if (y.isSingle()) {
                        nextX.loseAtEnds(y.low);
                    }
                    if (x.isSingle()) {
                        nextY.loseAtEnds(x.low);
                    }
                    break;
                case IF_LESS:
                    nextX.within(LEAST, y.high - 1);
                    nextY.within(x.low + 1, GREATEST);
                    break;
                case IF_NOT_LESS:
                    nextX.within(y.low, GREATEST);
                    nextY.within(LEAST, x.high);
                    break;
                case IF_MORE:
                    nextX.within(y.low + 1, GREATEST);
                    nextY.within(LEAST, x.high - 1);
                    break;
                default:
                    nextX.within(LEAST, y.high);
                    nextY.within(x.low, GREATEST);
                    break;
            }
        }

        private void askNull(int op, int a) {
            int mark = work.pop(array);
            if (opensNull(op == IF_NULL, mark)) {
                come(to.stateAt(method, a), way, building.isWide(method, a));
            }
            if (opensNull(op == IF_NOT_NULL, mark)) {
                come(to.stateAt(method, place + 1), way, building.isWide(method, place + 1));
            }
        }

        /** Makes the row way what it is where the ARRAY is null, or is not; answers whether that can be. */
        private boolean opensNull(boolean isNull, int mark) {
            out.beSet(isNull ? 0 : array.sites, isNull && array.orNull);
            way.copy(work);
            way.tell(mark, out);
            return !out.isNothing();
        }

        private boolean makeArray() {
            int mark = work.pop(x);
            x.within(0, GREATEST);
            if (x.isNothing()) {
                return false;
            }
            int s = building.siteAt(method, place);
            out.beSingle(0);
            come(to.lengthOf(s), alone(x), true);
            come(to.elementOf(s), alone(out), true);
            work.tell(mark, x);
            work.push().beSet(1 << s, false);
            return true;
        }

        /** BOTH of the LENGTHS, or of the ELEMENTS, of the SITES of the value array, as far as they are told. */
        private void gather(boolean lengths, Value into) {
            into.beNothing();
            for (int s = 0; s < MOST_SITES; s++) {
                Row row = lengths ? from.lengthOf(s) : from.elementOf(s);
                if ((array.sites >> s & 1) == 1 && row.told) {
                    into.both(row.valueAt(0));
                }
            }
        }

        private boolean useArray(int op) {
            if (op == PUT) {
                work.pop(y);
            }
            int markX = op == LENGTH ? NONE : work.pop(x);
            int markArray = work.pop(array);
            array.orNull = false;
            gather(true, out);
            if (out.isNothing()) {
                return false;
            }
            if (op != LENGTH) {
                x.within(0, out.high - 1);
                if (x.isNothing()) {
                    return false;
                }
            }
            if (op == GET) {
                gather(false, out);
                if (out.isNothing()) {
                    return false;
                }
            }
            work.tell(markArray, array);
            work.tell(markX, x);
            if (op != PUT) {
                work.push().copy(out);
                return true;
            }
            for (int s = 0; s < MOST_SITES; s++) {
                if ((array.sites >> s & 1) == 1) {
                    come(to.elementOf(s), alone(y), true);
                }
            }
            return true;
        }

        private boolean enter(int callee) {
            openEntry(callee);
            for (int i = program.argumentsOf(callee) - 1; i >= 0; i--) {
                work.pop(entry.valueAt(i));
            }
            come(to.stateAt(callee, 0), entry, true);
            Row back = from.resultOf(callee);
            if (!back.told) {
                return false;
            }
            if (back.size > 0) {
                work.push().copy(back.valueAt(0));
            }
            return true;
        }

        private void giveBack() {
            if (program.resultSort(method) == RESULT_NONE) {
                lone.size = 0;
                come(to.resultOf(method), lone, true);
            } else {
                work.pop(x);
                come(to.resultOf(method), alone(x), true);
            }
        }

        private boolean useField(int op, int a) {
            if (op == GET_FIELD) {
                work.push().copy(from.fieldOf(a).valueAt(0));
            } else {
                work.pop(x);
                come(to.fieldOf(a), alone(x), true);
            }
            return true;
        }
    }

    /** VERDICTS by a certificate. */
    private static final class Judge {
        private final Program program;
        private final Facts facts;

        Judge(Program all, Facts certificate) {
            program = all;
            facts = certificate;
        }

        int judge(int m, int place, int wrong) {
            Row row = facts.stateAt(m, place);
            if (!row.told) {
                return 0;
            }
            int op = program.opAt(m, place);
            Value top = row.valueAt(row.size - 1);
            if (wrong == 1 && (op == DIVIDE || op == REMAINDER)) {
                return !top.has(0) ? 1 : top.isSingle() ? 3 : 2;
            }
            if (wrong == 4 && op == MAKE_ARRAY) {
                return top.low >= 0 ? 1 : top.high < 0 ? 3 : 2;
            }
            if (wrong == 2 && op >= LENGTH && op <= PUT) {
                Value array = row.valueAt(row.size - 1 - (op - LENGTH));
                return !array.orNull ? 1 : array.sites == 0 ? 3 : 2;
            }
            if (wrong == 3 && (op == GET || op == PUT)) {
                int at = row.size - 1 - (op - GET);
                return judgeIndex(row.valueAt(at - 1), row.valueAt(at));
            }
            return 1;
        }

        private int judgeIndex(Value array, Value index) {
            long leastLow = WORLD;
            long greatestHigh = NONE;
            for (int s = 0; s < MOST_SITES; s++) {
                Row length = facts.lengthOf(s);
                if ((array.sites >> s & 1) == 1 && length.told) {
                    leastLow = Math.min(leastLow, length.valueAt(0).low);
                    greatestHigh = Math.max(greatestHigh, length.valueAt(0).high);
                }
            }
            // no ARRAY can be there: neither can a wrong index
            if (greatestHigh == NONE) {
                return 1;
            }
            if (index.low >= 0 && index.high < leastLow) {
                return 1;
            }
            return index.high < 0 || index.low >= greatestHigh ? 3 : 2;
        }

        int howMany(int m, int place, int verdict) {
            int op = program.opAt(m, place);
            int count = 0;
            for (int wrong = 1; wrong <= 4; wrong++) {
                if (canBe(op, wrong) && judge(m, place, wrong) == verdict) {
                    count++;
                }
            }
            return count;
        }

        private static boolean canBe(int op, int wrong) {
            switch (wrong) {
                case 1:
                    return op == DIVIDE || op == REMAINDER;
                case 2:
                    return op == LENGTH || op == GET || op == PUT;
                case 3:
                    return op == GET || op == PUT;
                default:
                    return op == MAKE_ARRAY;
            }
        }
    }

    /** The arguments that runs are given. */
    private static final class Given {
        int count;
        private final int[] kinds = new int[MOST_ARGUMENTS];
        private final int[] values = new int[MOST_ARGUMENTS];
        private final int[] ints = new int[MOST_ARGUMENTS * MOST_ARGUMENT_LENGTH];

        int add(int kind, int v) {
            if (count >= MOST_ARGUMENTS || kind < KIND_INT || kind > KIND_NULL) {
                return NONE;
            }
            if (kind == KIND_ARRAY && (v < 0 || v > MOST_ARGUMENT_LENGTH)) {
                return NONE;
            }
            kinds[count] = kind;
            values[count] = v;
            for (int i = 0; i < MOST_ARGUMENT_LENGTH; i++) {
                ints[count * MOST_ARGUMENT_LENGTH + i] = 0;
            }
            count++;
            return count;
        }

        int put(int k, int i, int v) {
            if (k < 0 || k >= count || kinds[k] != KIND_ARRAY || i < 0 || i >= values[k]) {
                return NONE;
            }
            ints[k * MOST_ARGUMENT_LENGTH + i] = v;
            return 1;
        }

        boolean fits(Program program, int m) {
            if (program.argumentsOf(m) != count) {
                return false;
            }
            for (int i = 0; i < count; i++) {
                if (program.holdsArray(m, i) == (kinds[i] == KIND_INT)) {
                    return false;
                }
            }
            return true;
        }

        int kindOf(int k) {
            return k >= 0 && k < count ? kinds[k] : KIND_NULL;
        }

        int valueOf(int k) {
            return k >= 0 && k < count ? values[k] : 0;
        }

        int intAt(int k, int i) {
            return kindOf(k) == KIND_ARRAY && i >= 0 && i < values[k] ? ints[k * MOST_ARGUMENT_LENGTH + i] : 0;
        }
    }

    /** The ARRAYS of a run, by numbers from 1 on; 0 is null. */
    private static final class Heap {
        int count;
        private int used;
        private final int[] starts = new int[MOST_ARRAYS + 1];
        private final int[] lengths = new int[MOST_ARRAYS + 1];
        private final int[] sites = new int[MOST_ARRAYS + 1];
        private final int[] ints = new int[MOST_INTS];

        void clear() {
            count = 0;
            used = 0;
        }

        /** A new ARRAY's number; NONE if there would be too many, or too many INTS. */
        int add(int length, int site) {
            if (count >= MOST_ARRAYS || length < 0 || length > MOST_INTS - used) {
                return NONE;
            }
            count++;
            starts[count] = used;
            lengths[count] = length;
            sites[count] = site;
            Arrays.fill(ints, used, used + length, 0);
            used += length;
            return count;
        }

        boolean isArray(int r) {
            return r >= 1 && r <= count;
        }

        int lengthOf(int r) {
            return isArray(r) ? lengths[r] : NONE;
        }

        int siteOf(int r) {
            return isArray(r) ? sites[r] : OUTSIDE;
        }

        boolean hasIndex(int r, int i) {
            return isArray(r) && i >= 0 && i < lengths[r];
        }

        int get(int r, int i) {
            return hasIndex(r, i) ? ints[starts[r] + i] : 0;
        }

        void set(int r, int i, int v) {
            if (hasIndex(r, i)) {
                ints[starts[r] + i] = v;
            }
        }
    }

    /** Makes runs, and holds them against the certificate as it is while they run. */
    private static final class Machine {
        int strayedAt = NONE;
        private final Program program;
        private final Building building;
        private final Facts facts;
        private final Given given;
        private final Heap heap = new Heap();
        private final long[] report = new long[8];
        private final int[] fields = new int[FIELDS];
        /** Frame by frame: LOCALS, right behind them the stack. */
        private final int[] slots = new int[FRAMES * SLOTS];
        private final int[] sizes = new int[FRAMES];
        private final int[] methods = new int[FRAMES];
        private final int[] places = new int[FRAMES];
        private int top;
        private int wrong;
        private boolean watching;
        /** Whether a FIELD or an ARRAY has become what the certificate does not tell: the next INSTRUCTION sees it. */
        private boolean strayed;

        Machine(Program all, Building shapes, Facts certificate, Given arguments) {
            program = all;
            building = shapes;
            facts = certificate;
            given = arguments;
        }

        long told(int what) {
            return what >= 0 && what < report.length ? report[what] : NO;
        }

        int make(int m, int n, boolean certified) {
            watching = certified;
            begin(m);
            int end = 0;
            for (int begun = 0; begun < n && end == 0; begun++) {
                if (watching && !isTold()) {
                    strayedAt = begun;
                    watching = false;
                }
                report[2] = begun + 1;
                report[3] = methods[top];
                report[4] = places[top];
                end = perform();
            }
            report[1] = wrong;
            report[6] = fields[0];
            report[7] = heap.count;
            return end == 0 ? ONE_MORE_DUE : end;
        }

        private void begin(int m) {
            strayedAt = NONE;
            strayed = false;
            wrong = 0;
            heap.clear();
            Arrays.fill(fields, 0);
            Arrays.fill(report, 0);
            report[3] = m;
            top = NONE;
            openFrame(m);
            for (int k = 0; k < program.argumentsOf(m); k++) {
                slots[k] = given.kindOf(k) == KIND_INT ? given.valueOf(k) : bring(k);
            }
        }

        /** An argument's ARRAY is made afresh for the run, so that no run sees what an earlier one put there. */
        private int bring(int k) {
            if (given.kindOf(k) != KIND_ARRAY) {
                return 0;
            }
            int r = heap.add(given.valueOf(k), OUTSIDE);
            for (int i = 0; i < given.valueOf(k); i++) {
                heap.set(r, i, given.intAt(k, i));
            }
            return r;
        }

        private boolean openFrame(int m) {
            if (top + 1 >= FRAMES) {
                return false;
            }
            top++;
            methods[top] = m;
            places[top] = 0;
            sizes[top] = program.localsOf(m);
            for (int i = 0; i < SLOTS; i++) {
                slots[top * SLOTS + i] = 0;
            }
            report[5] = Math.max(report[5], top + 1);
            return true;
        }

        private int pop() {
            if (sizes[top] <= 0) {
                return 0;
            }
            sizes[top]--;
            return slots[top * SLOTS + sizes[top]];
        }

        private void push(int v) {
            if (sizes[top] < SLOTS) {
                slots[top * SLOTS + sizes[top]] = v;
                sizes[top]++;
            }
        }

        private boolean hasLocal(int a) {
            return a >= 0 && a < MOST_LOCALS;
        }

        private int goWrong(int number) {
            wrong = number;
            return WENT_WRONG;
        }

        /** One INSTRUCTION: 0 when the run goes on, else how it ended. */
        private int perform() {
            int op = program.opAt(methods[top], places[top]);
            int a = program.operandAt(methods[top], places[top]);
            if (op < 0) {
                return RETURNED;
            }
            if (op == RETURN) {
                return leave();
            }
            int at = places[top];
            places[top]++;
            if (op <= SWAP) {
                return move(op, a);
            }
            if (op <= NEGATE) {
                return reckon(op);
            }
            if (op <= IF_NOT_NULL) {
                return jump(op, a);
            }
            if (op <= PUT) {
                return op == MAKE_ARRAY ? makeArray(at) : useArray(op);
            }
            if (op == CALL) {
                return enter(a);
            }
            return useField(op, a);
        }

        private int move(int op, int a) {
            int v;
            switch (op) {
                case CONSTANT:
                    push(a);
                    break;
                case LOAD:
                    push(hasLocal(a) ? slots[top * SLOTS + a] : 0);
                    break;
                case STORE:
                    v = pop();
                    if (hasLocal(a)) {
                        slots[top * SLOTS + a] = v;
                    }
                    break;
                case NULL:
                    push(0);
                    break;
                case DROP:
                    pop();
                    break;
                case TWICE:
                    v = pop();
                    push(v);
                    push(v);
                    break;
                default:
                    v = pop();
                    int w = pop();
                    push(v);
                    push(w);
                    break;
            }
            return 0;
        }

        private int reckon(int op) {
            int j = pop();
            if (op == NEGATE) {
                push(-j);
                return 0;
            }
            int i = pop();
            if (op == DIVIDE || op == REMAINDER) {
                if (j == 0) {
                    return goWrong(1);
                }
                push(op == DIVIDE ? i / j : i % j);
                return 0;
            }
            push(reckoned(op, i, j));
            return 0;
        }

        private static int reckoned(int op, int i, int j) {
            switch (op) {
                case ADD:
                    return i + j;
                case SUBTRACT:
                    return i - j;
                case MULTIPLY:
                    return i * j;
                case AND:
                    return i & j;
                case OR:
                    return i | j;
                case XOR:
                    return i ^ j;
                case SHIFT_LEFT:
                    return i << j;
                case SHIFT_RIGHT:
                    return i >> j;
                default:
                    return i >>> j;
            }
        }

        private int jump(int op, int a) {
            boolean goes = op == GO;
            if (op == IF_NULL || op == IF_NOT_NULL) {
                goes = (pop() == 0) == (op == IF_NULL);
            } else if (op != GO) {
                int j = pop();
                int i = pop();
                goes = compares(op, i, j);
            }
            if (goes) {
                places[top] = a;
            }
            return 0;
        }

        private static boolean compares(int op, int i, int j) {
            switch (op) {
                case IF_EQUAL:
                    return i == j;
                case IF_NOT_EQUAL:
                    return i != j;
                case IF_LESS:
                    return i < j;
                case IF_NOT_LESS:
                    return i >= j;
                case IF_MORE:
                    return i > j;
                default:
                    return i <= j;
            }
        }

        private int makeArray(int at) {
            int length = pop();
            if (length < 0) {
                return goWrong(4);
            }
            int s = building.siteAt(methods[top], at);
            int r = heap.add(length, s);
            if (r == NONE) {
                return goWrong(6);
            }
            // an ARRAY without elements has none that could be untold
            strayed |= !tells(facts.lengthOf(s), length) || (length > 0 && !tells(facts.elementOf(s), 0));
            push(r);
            return 0;
        }

        private int useArray(int op) {
            int j = op == PUT ? pop() : 0;
            int i = op == LENGTH ? 0 : pop();
            int r = pop();
            if (!heap.isArray(r)) {
                return goWrong(2);
            }
            if (op == LENGTH) {
                push(heap.lengthOf(r));
                return 0;
            }
            if (!heap.hasIndex(r, i)) {
                return goWrong(3);
            }
            if (op == GET) {
                push(heap.get(r, i));
                return 0;
            }
            heap.set(r, i, j);
            strayed |= !tells(facts.elementOf(heap.siteOf(r)), j);
            return 0;
        }

        private int enter(int callee) {
            int caller = top;
            if (!openFrame(callee)) {
                return goWrong(5);
            }
            int count = program.argumentsOf(callee);
            sizes[caller] = Math.max(sizes[caller] - count, 0);
            for (int k = 0; k < count && sizes[caller] + k < SLOTS; k++) {
                slots[top * SLOTS + k] = slots[caller * SLOTS + sizes[caller] + k];
            }
            return 0;
        }

        private int leave() {
            int sort = program.resultSort(methods[top]);
            int v = sort == RESULT_NONE ? 0 : pop();
            if (top == 0) {
                report[0] = sort == RESULT_ARRAY ? heap.lengthOf(v) : v;
                return RETURNED;
            }
            top--;
            if (sort != RESULT_NONE) {
                push(v);
            }
            return 0;
        }

        private int useField(int op, int a) {
            if (a < 0 || a >= FIELDS) {
                return 0;
            }
            if (op == GET_FIELD) {
                push(fields[a]);
            } else {
                fields[a] = pop();
                strayed |= !tells(facts.fieldOf(a), fields[a]);
            }
            return 0;
        }

        private static boolean tells(Row row, int v) {
            return row.told && row.valueAt(0).has(v);
        }

        /** Whether the certificate tells what is now, as an INSTRUCTION begins. */
        private boolean isTold() {
            Row row = facts.stateAt(methods[top], places[top]);
            if (strayed || !row.told || row.size != sizes[top]) {
                return false;
            }
            for (int i = 0; i < row.size && i < SLOTS; i++) {
                if (!isToldBy(row.valueAt(i), slots[top * SLOTS + i])) {
                    return false;
                }
            }
            return true;
        }

        private boolean isToldBy(Value value, int v) {
            if (!value.array) {
                return value.has(v);
            }
            return v == 0 ? value.orNull : (value.sites >> heap.siteOf(v) & 1) == 1;
        }
    }
}
