import java.util.ArrayList;
import java.util.List;
import java.util.Random;

/** Tells a pair random METHODS whose SHAPES mostly fit, jumps between PLACES of the same SHAPE among them. */
final class Programs {
    static final int[] NUMBERS = {
        0, 0, 0, 1, 1, 2, 3, 4, 5, 6, 7, 8, 9, 10, 12, 16, 20, 30, 31, 32, 33, 63, 64, 100, 127, 128, 200, 255, 256,
        1000, 1024, 32767, 32768, 65535, 65536, 1000000, 1 << 30, Integer.MAX_VALUE, Integer.MAX_VALUE - 1,
        Integer.MIN_VALUE, Integer.MIN_VALUE + 1, -1, -1, -2, -3, -4, -7, -8, -10, -100, -128, -129, -32768, -65536
    };

    private final Random random;
    private final Pair pair;
    private final int[][] heads;

    Programs(Random random, Pair pair) {
        this.random = random;
        this.pair = pair;
        heads = new int[1 + random.nextInt(random.nextInt(4) == 0 ? 8 : 3)][];
    }

    static int number(Random random) {
        return random.nextInt(12) == 0 ? random.nextInt() : NUMBERS[random.nextInt(NUMBERS.length)];
    }

    int count() {
        return heads.length;
    }

    void tell() {
        for (int m = 0; m < heads.length; m++) {
            int arguments = random.nextInt(4);
            int locals = arguments + random.nextInt(7 - arguments);
            if (locals == 0 && random.nextBoolean()) {
                locals = 3;
            }
            heads[m] = new int[] {arguments, locals, random.nextInt(1 << locals), random.nextInt(3)};
            pair.method(arguments, locals, heads[m][2], heads[m][3]);
        }
        for (int m = 0; m < heads.length; m++) {
            tellCode(m, 5 + random.nextInt(random.nextBoolean() ? 20 : 50));
        }
    }

    private boolean array(int m, int local) {
        return (heads[m][2] >> local & 1) == 1;
    }

    private List<int[]> code;
    private List<String> shapes;
    private StringBuilder shape;

    private void emit(int op, int a) {
        shapes.add(shape.toString());
        code.add(new int[] {op, a});
    }

    private boolean ends(String kinds) {
        return shape.length() >= kinds.length() && shape.substring(shape.length() - kinds.length()).equals(kinds);
    }

    private void drop(int n) {
        shape.setLength(shape.length() - n);
    }

    private void tellCode(int m, int length) {
        code = new ArrayList<>();
        shapes = new ArrayList<>();
        shape = new StringBuilder();
        for (int i = 0; i < heads[m][1]; i++) {
            if (array(m, i) && random.nextInt(3) > 0) {
                emitMake(i);
            }
        }
        while (code.size() < length) {
            emitOne(m);
        }
        while (code.size() < 59 && !ends(new String[] {"", "i", "r"}[heads[m][3]])) {
            emit(heads[m][3] == 1 ? 0 : 3, number(random));
            shape.append(heads[m][3] == 1 ? 'i' : 'r');
        }
        emit(33, 0);
        for (int p = 0; p < code.size(); p++) {
            aim(p);
        }
        if (random.nextInt(40) == 0) {
            int[] broken = code.get(random.nextInt(code.size()));
            broken[random.nextInt(2)] = random.nextInt(36);
        }
        for (int[] line : code) {
            pair.code(m, line[0], line[1]);
        }
    }

    /** Lets a jump go to a PLACE of the SHAPE that it leaves; back more often than a plain choice would. */
    private void aim(int p) {
        int op = code.get(p)[0];
        if (op < 19 || op > 27) {
            return;
        }
        String left = shapes.get(p);
        left = left.substring(0, left.length() - (op == 19 ? 0 : op <= 25 ? 2 : 1));
        List<Integer> fit = new ArrayList<>();
        for (int q = 0; q < code.size(); q++) {
            if (shapes.get(q).equals(left)) {
                fit.add(q);
            }
        }
        if (fit.isEmpty()) {
            code.set(p, new int[] {op == 19 ? 19 : 4, p});
            return;
        }
        code.get(p)[1] = fit.get(random.nextInt(fit.size()));
    }

    private void emitMake(int local) {
        emit(0, random.nextInt(30));
        shape.append('i');
        emit(28, 0);
        shape.setLength(0);
        shape.append('r');
        emit(2, local);
        shape.setLength(0);
    }

    private int local(int m, boolean wantArray) {
        List<Integer> fit = new ArrayList<>();
        for (int i = 0; i < heads[m][1]; i++) {
            if (array(m, i) == wantArray) {
                fit.add(i);
            }
        }
        return fit.isEmpty() ? -1 : fit.get(random.nextInt(fit.size()));
    }

    private void emitOne(int m) {
        int choice = random.nextInt(100);
        boolean room = shape.length() < 7;
        int a;
        if (choice < 12 && room) {
            emit(0, number(random));
            shape.append('i');
        } else if (choice < 34 && room && heads[m][1] > 0) {
            a = random.nextInt(heads[m][1]);
            emit(1, a);
            shape.append(array(m, a) ? 'r' : 'i');
        } else if (choice < 44 && shape.length() > 0) {
            a = local(m, ends("r"));
            emit(a < 0 ? 4 : 2, a);
            drop(1);
        } else if (choice < 46 && room) {
            emit(3, 0);
            shape.append('r');
        } else if (choice < 49 && room && shape.length() > 0) {
            emit(5, 0);
            shape.append(shape.charAt(shape.length() - 1));
        } else if (choice < 51 && shape.length() > 1) {
            emit(6, 0);
            shape.insert(shape.length() - 2, shape.charAt(shape.length() - 1));
            drop(1);
        } else if (choice < 65 && ends("ii")) {
            emit(7 + random.nextInt(11), 0);
            drop(1);
        } else if (choice < 66 && ends("i")) {
            emit(18, 0);
        } else if (choice < 67) {
            emit(19, 0);
        } else if (choice < 78 && ends("ii")) {
            emit(20 + random.nextInt(6), 0);
            drop(2);
        } else if (choice < 80 && ends("r")) {
            emit(26 + random.nextInt(2), 0);
            drop(1);
        } else if (choice < 83 && ends("i")) {
            emit(28, 0);
            drop(1);
            shape.append('r');
        } else if (choice < 95) {
            emitOther(m, choice);
        }
    }

    private void emitOther(int m, int choice) {
        if (ends("rii")) {
            emit(31, 0);
            drop(3);
        } else if (ends("ri")) {
            emit(30, 0);
            drop(2);
            shape.append('i');
        } else if (ends("r")) {
            emit(29, 0);
            drop(1);
            shape.append('i');
        } else if (choice < 86) {
            int f = random.nextInt(4);
            if (ends("i") && random.nextBoolean()) {
                emit(35, f);
                drop(1);
            } else if (shape.length() < 7) {
                emit(34, f);
                shape.append('i');
            }
        } else if (choice < 92) {
            emitCall(random.nextInt(heads.length));
        } else if (choice < 93 && ends(new String[] {"", "i", "r"}[heads[m][3]])) {
            emit(33, 0);
        }
    }

    private void emitCall(int callee) {
        StringBuilder kinds = new StringBuilder();
        for (int i = 0; i < heads[callee][0]; i++) {
            kinds.append(array(callee, i) ? 'r' : 'i');
        }
        if (!ends(kinds.toString()) || shape.length() - kinds.length() > 6) {
            return;
        }
        emit(32, callee);
        drop(kinds.length());
        shape.append(new String[] {"", "i", "r"}[heads[callee][3]]);
    }
}
