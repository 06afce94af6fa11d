/** Pieces of CODE that tests put together: op, a, op, a, ... */
final class Lines {
    static final int MIN = Integer.MIN_VALUE;
    static final int MAX = Integer.MAX_VALUE;
    static final long[] ALL = {MIN, MAX, 1};

    private Lines() {
    }

    static int[] of(int... lines) {
        return lines;
    }

    static int[] join(int[]... parts) {
        int length = 0;
        for (int[] part : parts) {
            length += part.length;
        }
        int[] all = new int[length];
        int at = 0;
        for (int[] part : parts) {
            System.arraycopy(part, 0, all, at, part.length);
            at += part.length;
        }
        return all;
    }

    static int[] times(int count, int... lines) {
        int[] all = new int[count * lines.length];
        for (int i = 0; i < count; i++) {
            System.arraycopy(lines, 0, all, i * lines.length, lines.length);
        }
        return all;
    }

    /** A SPAN: one number alone, or low, high, STRIDE. */
    static long[] is(long... span) {
        return span.length == 1 ? new long[] {span[0], span[0], 0} : span;
    }

    /**
     * Puts a SPAN on the stack: a LOCAL of which nothing is known, masked to 0 .. so many, times the STRIDE, and low.
     * What is wider than half of all INTS is the LOCAL itself, or, if its STRIDE is a power of 2, goes as far as INTS
     * do: the LOCAL times the STRIDE, and what low is above the least INT.
     */
    static int[] make(long[] span, int local) {
        if (span[0] == span[1]) {
            return of(0, (int) span[0]);
        }
        if (span[1] - span[0] > MAX) {
            return span[2] == 1 ? of(1, local) : of(1, local, 0, (int) span[2], 9, 0, 0, (int) (span[0] - MIN), 7, 0);
        }
        int mask = (int) ((span[1] - span[0]) / span[2]);
        return of(1, local, 0, mask, 12, 0, 0, (int) span[2], 9, 0, 0, (int) span[0], 7, 0);
    }

    /**
     * From PLACE 0 on: LOCAL is what one of these puts on the stack; which one can not be told, for it hangs on
     * LOCAL 0, of which nothing is known.
     */
    static int[] oneOf(int local, int[]... makers) {
        int end = 0;
        for (int[] maker : makers) {
            end += 5 + maker.length / 2;
        }
        int[] lines = new int[0];
        for (int i = 0; i < makers.length; i++) {
            int next = lines.length / 2 + 5 + makers[i].length / 2;
            boolean last = i == makers.length - 1;
            // the last one is taken whatever LOCAL 0 is: a jump to the next PLACE
            int goal = last ? lines.length / 2 + 3 : next;
            lines = join(lines, of(1, 0, 0, i, 21, goal), makers[i], of(2, local, 19, end));
        }
        return lines;
    }
}
