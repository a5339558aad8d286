import java.util.function.IntToLongFunction;

/** What the tests of edges share: answers judged under the name of their test, and desks made ready. */
abstract class Edges {
    static final int M = FrameDesk.MISSING;
    static final int OPEN = FrameDesk.OPEN;
    static final int NONE = FrameDesk.NONE;
    static final int UNKNOWN = FrameDesk.UNKNOWN;
    static final int OUTSIDE = FrameDesk.OUTSIDE;
    static final int NOT = FrameDesk.NOT;
    static final int FULL = FrameDesk.FULL;
    static final int LOWEST = Integer.MIN_VALUE;
    static final int HIGHEST = Integer.MAX_VALUE;

    private static String test = "";
    private static int tests = 0;
    private static int asked = 0;
    private static int wrong = 0;

    /** What is asked from here on belongs to the test of this name. */
    static void test(String name) {
        test = name;
        tests++;
    }

    static void due(String call, long got, long want) {
        asked++;
        if (got != want) {
            wrong++;
            System.out.println(test + ": " + call + " answered " + got + ", due is " + want);
        }
    }

    /** Each of these arguments gets the same answer. */
    static void each(String call, IntToLongFunction ask, long want, int... arguments) {
        for (int argument : arguments) {
            due(call.replace("?", Integer.toString(argument)), ask.applyAsLong(argument), want);
        }
    }

    /** The answers for 0, 1, 2 .. one by one. */
    static void list(String call, IntToLongFunction ask, long... wanted) {
        for (int i = 0; i < wanted.length; i++) {
            due(call.replace("?", Integer.toString(i)), ask.applyAsLong(i), wanted[i]);
        }
    }

    static void end() {
        System.out.println(tests + " tests of edges, " + asked + " answers asked, " + wrong + " not as due");
        if (wrong != 0) {
            System.exit(1);
        }
    }

    /** Rows of PART, KEY, WORTH. */
    static FrameDesk desk(int[]... rows) {
        FrameDesk x = new FrameDesk();
        for (int[] row : rows) {
            x.put(row[0], row[1], row[2]);
        }
        return x;
    }

    /** Rows of PART 0 with these KEYS, WORTH as their numbers. */
    static FrameDesk keys(int... keys) {
        FrameDesk x = new FrameDesk();
        for (int i = 0; i < keys.length; i++) {
            x.put(0, keys[i], i);
        }
        return x;
    }

    /** Rows of PART 0 with these WORTHS, KEY as their numbers; each FRAME is the whole PART. */
    static FrameDesk worths(int... worths) {
        FrameDesk x = new FrameDesk();
        for (int i = 0; i < worths.length; i++) {
            x.put(0, i, worths[i]);
        }
        x.frame(0, OPEN, OPEN, 0);
        return x;
    }

    /** n rows of PART 0, KEY and WORTH as their numbers. */
    static FrameDesk line(int n) {
        FrameDesk x = new FrameDesk();
        for (int i = 0; i < n; i++) {
            x.put(0, i, i);
        }
        return x;
    }

    /** n rows of PART 0, KEY 7, with this WORTH. */
    static FrameDesk like(int n, int worth) {
        FrameDesk x = new FrameDesk();
        for (int i = 0; i < n; i++) {
            x.put(0, 7, worth);
        }
        return x;
    }

    static long set(int... rows) {
        long bits = 0;
        for (int r : rows) {
            bits |= 1L << r;
        }
        return bits;
    }

    static long span(int first, int last) {
        long bits = 0;
        for (int r = first; r <= last; r++) {
            bits |= 1L << r;
        }
        return bits;
    }

    static void stand(FrameDesk x, int... wanted) {
        list("standing(?)", k -> x.standing(k), longs(wanted));
        due("standing(" + wanted.length + ")", x.standing(wanted.length), NONE);
    }

    static void frames(FrameDesk x, long... wanted) {
        list("rows(?)", r -> x.rows(r), wanted);
    }

    static void ofFrame(FrameDesk x, int r, int... wanted) {
        list("of(" + r + ", ?)", what -> x.of(r, what), longs(wanted));
    }

    private static long[] longs(int... numbers) {
        long[] same = new long[numbers.length];
        for (int i = 0; i < numbers.length; i++) {
            same[i] = numbers[i];
        }
        return same;
    }
}
