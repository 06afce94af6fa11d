import java.util.Random;

/** What a certificate is for: of random programs it holds, no run of a ROOT leaves it, no VERDICT 1 is belied. */
public final class SoundnessTest {
    private static int wrong;

    public static void main(String[] args) {
        int trials = args.length > 0 ? Integer.parseInt(args[0]) : 3000;
        int runs = 0;
        for (int i = 0; i < trials && wrong < 5; i++) {
            Random random = new Random(7777777L + i);
            Pair pair = new Pair();
            int methods;
            if (i % 3 == 0) {
                Programs programs = new Programs(random, pair);
                programs.tell();
                methods = programs.count();
            } else {
                Stories stories = new Stories(random, pair);
                stories.tell();
                methods = stories.count();
            }
            if (pair.build() > 0) {
                runs += trial(i, random, pair, methods);
            }
        }
        System.out.println("SoundnessTest: " + runs + " runs, " + wrong + " wrong");
        if (wrong > 0 || runs < trials) {
            System.exit(1);
        }
    }

    private static void wrong(int i, String what) {
        wrong++;
        System.out.println("trial " + i + ": " + what);
    }

    private static int trial(int i, Random random, Pair pair, int methods) {
        AnalysisHouse h = pair.house;
        int roots = 1 + random.nextInt((1 << methods) - 1);
        h.analyze(roots);
        if (h.check() != 1) {
            wrong(i, "check() answered " + h.check());
        }
        int runs = 0;
        for (int k = 0; k < 8; k++) {
            int m = random.nextInt(methods);
            if ((roots >> m & 1) == 1) {
                give(random, h, pair.oracle.methods.get(m));
                runs++;
                look(i, h, h.run(m, 2000));
            }
        }
        return runs;
    }

    private static void give(Random random, AnalysisHouse h, Oracle.Method method) {
        h.forget();
        for (int a = 0; a < method.arguments(); a++) {
            if (!method.array(a)) {
                h.argument(0, Programs.number(random));
            } else if (random.nextInt(4) == 0) {
                h.argument(2, 0);
            } else {
                h.argument(1, random.nextInt(100));
                h.fill(a, random.nextInt(20), Programs.number(random));
            }
        }
    }

    private static void look(int i, AnalysisHouse h, int end) {
        if (h.outside() != AnalysisHouse.NONE) {
            wrong(i, "a run left the certificate at " + h.outside());
        }
        int number = (int) h.ran(1);
        if (end == 2 && number <= 4 && h.verdict((int) h.ran(3), (int) h.ran(4), number) < 2) {
            wrong(i, "WRONG " + number + " could not be");
        }
        if (end == 1 && h.result((int) h.ran(3), 5) != 1) {
            wrong(i, "it returned, and may not");
        }
    }
}
