import java.util.Random;

/** Random programs, certificates, altered certificates and runs: the class answers as the oracle does. */
public final class OracleTest {
    public static void main(String[] args) {
        int trials = args.length > 0 ? Integer.parseInt(args[0]) : 3000;
        long seed = args.length > 1 ? Long.parseLong(args[1]) : 1;
        int wrong = 0;
        int built = 0;
        int most = 0;
        for (int i = 0; i < trials && wrong < 3; i++) {
            Random random = new Random(seed * 1000003 + i);
            Pair pair = new Pair();
            int methods = tell(random, pair, i % 2 == 0);
            boolean fine = pair.build() > 0;
            pair.faultAt(0);
            pair.faultAt(1);
            if (fine) {
                built++;
                most = Math.max(most, trial(random, pair, methods));
            }
            if (pair.wrong > 0) {
                wrong++;
                System.out.println("trial " + i + ": " + pair.wrong + " wrong answers");
            }
        }
        System.out.println("OracleTest: " + built + " of " + trials + " built, " + most + " passes at most, "
            + wrong + " wrong");
        if (wrong > 0 || built * 2 < trials) {
            System.exit(1);
        }
    }

    private static int tell(Random random, Pair pair, boolean story) {
        if (story) {
            Stories stories = new Stories(random, pair);
            stories.tell();
            return stories.count();
        }
        Programs programs = new Programs(random, pair);
        programs.tell();
        return programs.count();
    }

    private static int trial(Random random, Pair pair, int methods) {
        int roots = random.nextInt(4) == 0 ? random.nextInt(1 << methods) : 1;
        int passes = pair.analyze(roots);
        pair.askAll();
        pair.check();
        for (int k = 0; k < 6; k++) {
            runOnce(random, pair, methods);
        }
        for (int k = 0; k < 4; k++) {
            alter(random, pair, methods);
            pair.check();
            runOnce(random, pair, methods);
        }
        pair.verdicts(1);
        pair.verdicts(2);
        return passes;
    }

    private static void alter(Random random, Pair pair, int methods) {
        for (int tries = 0; tries < 50; tries++) {
            int m = random.nextInt(methods);
            int p = random.nextInt(60);
            if (random.nextInt(8) == 0) {
                if (pair.forgetState(m, p)) {
                    return;
                }
                continue;
            }
            int slot = random.nextBoolean() ? random.nextInt(6) : 10 + random.nextInt(4);
            int low = Programs.number(random);
            int high = low + random.nextInt(20) - 1;
            if (pair.plant(m, p, slot, low, random.nextBoolean() ? high : Programs.number(random))) {
                return;
            }
        }
    }

    private static void runOnce(Random random, Pair pair, int methods) {
        int m = random.nextInt(3) == 0 ? random.nextInt(methods) : 0;
        pair.forget();
        Oracle.Method method = pair.oracle.methods.get(m);
        for (int i = 0; i < method.arguments(); i++) {
            if (!method.array(i)) {
                pair.argument(0, Programs.number(random));
            } else if (random.nextInt(4) == 0) {
                pair.argument(2, 7);
            } else {
                int length = random.nextInt(random.nextBoolean() ? 4 : 201);
                pair.argument(1, length);
                pair.fill(i, random.nextInt(4), Programs.number(random));
            }
        }
        pair.run(m, random.nextInt(8) == 0 ? random.nextInt(10) : 300);
        pair.askRun();
    }
}
