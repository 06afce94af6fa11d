import java.util.Random;

/** Calls of all sorts in any order, with arguments about and far beyond what is allowed: as the oracle answers. */
public final class RefusalsTest {
    private static final int[] EDGES = {
        -1, 0, 0, 0, 1, 1, 2, 3, 4, 5, 6, 7, 8, 9, 10, 11, 17, 18, 25, 28, 33, 35, 36, 59, 60, 200, 201, 20000, 20001,
        -1000, Integer.MAX_VALUE, Integer.MIN_VALUE, 1 << 30, 255, 256
    };

    public static void main(String[] args) {
        int trials = args.length > 0 ? Integer.parseInt(args[0]) : 1500;
        int wrong = 0;
        long built = 0;
        for (int i = 0; i < trials && wrong < 3; i++) {
            Random random = new Random(424242L + i);
            Pair pair = new Pair();
            for (int k = 0; k < 500; k++) {
                built += call(random, pair);
            }
            pair.askAll();
            pair.askRun();
            if (pair.wrong > 0) {
                wrong++;
                System.out.println("trial " + i + ": " + pair.wrong + " wrong answers");
            }
        }
        System.out.println("RefusalsTest: " + trials + " trials, " + built + " builds, " + wrong + " wrong");
        if (wrong > 0 || built < trials) {
            System.exit(1);
        }
    }

    private static int edge(Random random) {
        return random.nextInt(3) > 0 ? random.nextInt(4) : EDGES[random.nextInt(EDGES.length)];
    }

    /** A few METHODS that build, so that not all that comes later is refused. */
    private static void sensible(Random random, Pair pair) {
        for (int m = 0; m < 8; m++) {
            if (pair.wipe(m) == AnalysisHouse.NONE) {
                break;
            }
            Oracle.Method method = pair.oracle.methods.get(m);
            if (method.result() == 1) {
                pair.code(m, 0, edge(random));
            } else if (method.result() == 2) {
                pair.code(m, 0, edge(random));
                pair.code(m, 28, 0);
            }
            pair.code(m, 33, 0);
        }
        pair.forget();
    }

    private static int call(Random random, Pair pair) {
        int a = edge(random);
        int b = edge(random);
        int c = edge(random);
        int d = edge(random);
        switch (random.nextInt(26)) {
            case 0, 1 -> pair.method(a, b, c, d);
            case 2, 3 -> pair.code(a, b, c);
            case 4 -> pair.wipe(a);
            case 5, 6 -> {
                if (random.nextInt(3) > 0) {
                    sensible(random, pair);
                }
                return pair.build() > 0 ? 1 : 0;
            }
            case 7 -> pair.faultAt(a);
            case 8, 9 -> pair.analyze(a);
            case 10 -> pair.reached(a, b);
            case 11 -> pair.state(a, b, c, d);
            case 12 -> pair.site(a, b);
            case 13 -> pair.field(a, b);
            case 14 -> pair.result(a, b);
            case 15 -> pair.verdict(a, b, c);
            case 16 -> pair.verdicts(a);
            case 17 -> pair.plant(a, b, c, d, edge(random));
            case 18 -> pair.forgetState(a, b);
            case 19 -> pair.check();
            case 20 -> pair.argument(a, b);
            case 21 -> pair.fill(a, b, c);
            case 22 -> pair.forget();
            case 23, 24 -> {
                pair.run(a, b);
                pair.askRun();
            }
            default -> pair.ran(a);
        }
        return 0;
    }
}
