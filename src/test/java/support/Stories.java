import java.util.ArrayList;
import java.util.List;
import java.util.Random;

/**
 * Tells a pair random METHODS that are made of statements: counting loops, conditions, ARRAYS that are made, filled
 * and read, FIELDS, calls. LOCALS 0 to 3 are INTS, 4 and 5 ARRAYS; every METHOD has one INT and one ARRAY given
 * (LOCALS 0 and 1 of its own kinds), so that all can call all.
 */
final class Stories {
    private final Random random;
    private final Pair pair;
    private final int count;
    private List<int[]> code;
    private int[] kinds;
    private int[] results;

    Stories(Random random, Pair pair) {
        this.random = random;
        this.pair = pair;
        count = 1 + random.nextInt(4);
    }

    int count() {
        return count;
    }

    void tell() {
        kinds = new int[count];
        results = new int[count];
        for (int m = 0; m < count; m++) {
            kinds[m] = 2 | 32 | random.nextInt(2) << 4;
            results[m] = random.nextInt(3);
            pair.method(2, 6, kinds[m], results[m]);
        }
        for (int m = 0; m < count; m++) {
            code = new ArrayList<>();
            for (int local = 4; local < 6; local++) {
                if ((kinds[m] >> local & 1) == 1 && random.nextInt(5) > 0) {
                    put(0, random.nextInt(40));
                    put(28, 0);
                    put(2, local);
                }
            }
            if (random.nextInt(3) > 0) {
                guard();
            }
            int goal = 10 + random.nextInt(30);
            for (int tries = 0; tries < 60 && code.size() < goal; tries++) {
                statement(m, 0);
            }
            finish(m);
            for (int[] line : code) {
                pair.code(m, line[0], line[1]);
            }
        }
    }

    /** An ARRAY given as null is another one from here on, lest most runs end at its first use. */
    private void guard() {
        put(1, 1);
        put(27, code.size() + 3);
        put(1, 5);
        put(2, 1);
    }

    private int small() {
        return random.nextInt(6) == 0 ? Programs.NUMBERS[random.nextInt(Programs.NUMBERS.length)]
            : random.nextInt(12) - 2;
    }

    private void put(int op, int a) {
        code.add(new int[] {op, a});
    }

    private int room() {
        return 57 - code.size();
    }

    private int intLocal(int m) {
        int[] fit = (kinds[m] & 16) == 0 ? new int[] {0, 2, 3, 4} : new int[] {0, 2, 3};
        return fit[random.nextInt(fit.length)];
    }

    private int arrayLocal(int m) {
        int[] fit = (kinds[m] & 16) == 0 ? new int[] {1, 5, 5} : new int[] {1, 4, 5};
        return fit[random.nextInt(fit.length)];
    }

    /** Puts an INT on the stack. */
    private void expression(int m, int deep) {
        int choice = random.nextInt(deep > 1 ? 6 : 12);
        if (choice < 2) {
            put(0, small());
        } else if (choice < 5) {
            put(1, intLocal(m));
        } else if (choice < 6) {
            put(34, random.nextInt(4));
        } else if (choice < 9) {
            expression(m, deep + 1);
            expression(m, deep + 1);
            put(7 + random.nextInt(11), 0);
        } else if (choice < 10) {
            expression(m, deep + 1);
            put(0, new int[] {1, 3, 7, 15, 255, 4, 6, 12, 24}[random.nextInt(9)]);
            put(new int[] {12, 9, 15, 11, 10, 16, 17, 13, 14}[random.nextInt(9)], 0);
        } else if (choice < 11) {
            put(1, arrayLocal(m));
            put(29, 0);
        } else {
            put(1, arrayLocal(m));
            expression(m, deep + 1);
            put(30, 0);
        }
    }

    private void statement(int m, int deep) {
        int choice = random.nextInt(20);
        if (room() < 12) {
            return;
        }
        if (choice < 3) {
            expression(m, 0);
            put(2, intLocal(m));
        } else if (choice < 5) {
            expression(m, 1);
            put(28, 0);
            put(2, arrayLocal(m));
        } else if (choice < 8) {
            put(1, arrayLocal(m));
            expression(m, 1);
            expression(m, 1);
            put(31, 0);
        } else if (choice < 10) {
            expression(m, 1);
            put(35, random.nextInt(4));
        } else if (choice < 12) {
            call(m);
        } else if (deep < 2 && room() > 30) {
            if (choice < 16) {
                loop(m, deep);
            } else {
                condition(m, deep);
            }
        }
    }

    private void call(int m) {
        int callee = random.nextInt(count);
        expression(m, 2);
        put(1, arrayLocal(m));
        put(32, callee);
        if (results[callee] == 1) {
            put(2, intLocal(m));
        } else if (results[callee] == 2) {
            put(2, arrayLocal(m));
        }
    }

    private void loop(int m, int deep) {
        int i = intLocal(m);
        int step = random.nextInt(4) == 0 ? -1 - random.nextInt(3) : 1 + random.nextInt(5);
        put(0, small());
        put(2, i);
        int head = code.size();
        put(1, i);
        if (random.nextInt(3) == 0) {
            put(1, arrayLocal(m));
            put(29, 0);
        } else {
            put(0, random.nextInt(3) == 0 ? small() : random.nextInt(400));
        }
        int exit = code.size();
        put(step < 0 ? 25 : random.nextInt(6) == 0 ? 20 : 23, 0);
        int before = code.size();
        for (int k = 0; k <= random.nextInt(3) && code.size() - before < 14; k++) {
            statement(m, deep + 1);
        }
        put(1, i);
        put(0, step);
        put(7, 0);
        put(2, i);
        put(19, head);
        code.get(exit)[1] = code.size();
    }

    private void condition(int m, int deep) {
        int jump;
        if (random.nextInt(3) == 0) {
            put(1, arrayLocal(m));
            jump = code.size();
            put(26 + random.nextInt(2), 0);
        } else {
            expression(m, 1);
            expression(m, 1);
            jump = code.size();
            put(20 + random.nextInt(6), 0);
        }
        statement(m, deep + 1);
        int over = code.size();
        put(19, 0);
        code.get(jump)[1] = code.size();
        if (room() > 16) {
            statement(m, deep + 1);
        }
        code.get(over)[1] = code.size();
    }

    private void finish(int m) {
        if (results[m] == 1) {
            put(1, intLocal(m));
        } else if (results[m] == 2) {
            put(1, arrayLocal(m));
        }
        put(33, 0);
    }
}
