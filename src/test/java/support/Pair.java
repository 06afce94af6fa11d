import java.util.ArrayList;
import java.util.List;

/** Makes each call on a house and on the oracle, and tells where they do not answer the same. */
final class Pair {
    final AnalysisHouse house = new AnalysisHouse();
    final Oracle oracle = new Oracle();
    private final List<String> calls = new ArrayList<>();
    int wrong;

    private long same(String name, long got, long want, int... with) {
        StringBuilder call = new StringBuilder(name).append('(');
        for (int i = 0; i < with.length; i++) {
            call.append(i == 0 ? "" : ", ").append(with[i]);
        }
        call.append(')');
        boolean asks = name.equals("state") || name.equals("verdict") || name.equals("reached")
            || name.equals("site") || name.equals("field") || name.equals("result") || name.equals("ran");
        if (!asks) {
            calls.add(call + " " + want);
        }
        if (got != want) {
            wrong++;
            if (wrong == 1) {
                System.out.println("after " + String.join("; ", calls));
            }
            if (wrong < 5) {
                System.out.println("  " + call + " answered " + got + ", due is " + want);
            }
        }
        return want;
    }

    private static long bit(boolean b) {
        return b ? 1 : 0;
    }

    int method(int a, int b, int c, int d) {
        return (int) same("method", house.method(a, b, c, d), oracle.method(a, b, c, d), a, b, c, d);
    }

    int code(int m, int op, int a) {
        return (int) same("code", house.code(m, op, a), oracle.code(m, op, a), m, op, a);
    }

    int wipe(int m) {
        return (int) same("wipe", house.wipe(m), oracle.wipe(m), m);
    }

    int build() {
        return (int) same("build", house.build(), oracle.build());
    }

    int faultAt(int what) {
        return (int) same("faultAt", house.faultAt(what), oracle.faultAt(what), what);
    }

    int analyze(int roots) {
        return (int) same("analyze", house.analyze(roots), oracle.analyze(roots), roots);
    }

    boolean reached(int m, int p) {
        return same("reached", bit(house.reached(m, p)), bit(oracle.reached(m, p)), m, p) == 1;
    }

    long state(int m, int p, int slot, int what) {
        return same("state", house.state(m, p, slot, what), oracle.state(m, p, slot, what), m, p, slot, what);
    }

    long site(int s, int what) {
        return same("site", house.site(s, what), oracle.site(s, what), s, what);
    }

    long field(int f, int what) {
        return same("field", house.field(f, what), oracle.field(f, what), f, what);
    }

    long result(int m, int what) {
        return same("result", house.result(m, what), oracle.result(m, what), m, what);
    }

    int verdict(int m, int p, int w) {
        return (int) same("verdict", house.verdict(m, p, w), oracle.verdict(m, p, w), m, p, w);
    }

    int verdicts(int v) {
        return (int) same("verdicts", house.verdicts(v), oracle.verdicts(v), v);
    }

    boolean plant(int m, int p, int slot, int low, int high) {
        return same("plant", bit(house.plant(m, p, slot, low, high)), bit(oracle.plant(m, p, slot, low, high)),
            m, p, slot, low, high) == 1;
    }

    boolean forgetState(int m, int p) {
        return same("forgetState", bit(house.forgetState(m, p)), bit(oracle.forgetState(m, p)), m, p) == 1;
    }

    int check() {
        return (int) same("check", house.check(), oracle.check());
    }

    int argument(int kind, int v) {
        return (int) same("argument", house.argument(kind, v), oracle.argument(kind, v), kind, v);
    }

    int fill(int k, int i, int v) {
        return (int) same("fill", house.fill(k, i, v), oracle.fill(k, i, v), k, i, v);
    }

    int forget() {
        return (int) same("forget", house.forget(), oracle.forget());
    }

    int run(int m, int n) {
        return (int) same("run", house.run(m, n), oracle.run(m, n), m, n);
    }

    long ran(int what) {
        return same("ran", house.ran(what), oracle.ran(what), what);
    }

    int outside() {
        return (int) same("outside", house.outside(), oracle.outside());
    }

    /** Asks all that can be asked of a certificate. */
    void askAll() {
        for (int m = -1; m <= oracle.methods.size(); m++) {
            int length = m < 0 || m >= oracle.methods.size() ? 0 : oracle.methods.get(m).code().size();
            for (int p = -1; p <= length; p++) {
                reached(m, p);
                for (int slot = -1; slot <= 18; slot++) {
                    for (int what = -1; what <= 6; what++) {
                        state(m, p, slot, what);
                    }
                }
                for (int w = 0; w <= 5; w++) {
                    verdict(m, p, w);
                }
            }
            for (int what = -1; what <= 6; what++) {
                result(m, what);
            }
        }
        for (int s = -1; s <= 25; s++) {
            for (int what = -1; what <= 8; what++) {
                site(s, what);
            }
        }
        for (int f = -1; f <= 4; f++) {
            for (int what = -1; what <= 5; what++) {
                field(f, what);
            }
        }
        for (int v = -1; v <= 4; v++) {
            verdicts(v);
        }
    }

    void askRun() {
        for (int what = -1; what <= 8; what++) {
            ran(what);
        }
        outside();
    }
}
