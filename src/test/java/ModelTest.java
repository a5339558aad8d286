import java.util.Random;

/** Runs of 512 drawn calls on FrameDesk and on the plain Model beside it: each answer must be the same. */
public final class ModelTest {
    private static final int RUNS = 400;
    private static final int CALLS = 512;
    private static final int[] ODD = {Integer.MIN_VALUE, Integer.MAX_VALUE, -1, 0, 1, 20, 21, -20, -21, 39, 40, 41, 63, 64,
        98, 99, 100, -99, -100, 999, 1000, -999, -1000, 999999, 1000000, -1000000, 1000001};

    private final Random random;
    private final FrameDesk desk = new FrameDesk();
    private final Model model = new Model();
    private final int run;
    private final int partsUsed;
    private final int keySpan;
    private String call = "";

    private ModelTest(int number) {
        run = number;
        random = new Random(number * 7919L + 5);
        partsUsed = 1 + random.nextInt(6);
        keySpan = new int[] {1, 3, 8, 30, 99}[random.nextInt(5)];
    }

    private int from(int least, int greatest) {
        if (random.nextInt(40) == 0) {
            return ODD[random.nextInt(ODD.length)];
        }
        return least + random.nextInt(greatest - least + 1);
    }

    private int aRow() {
        int count = model.told(0);
        return from(0, Math.max(0, count - 1 + random.nextInt(20) / 19));
    }

    private int aKey() {
        return random.nextInt(6) == 0 ? Model.MISSING : from(-keySpan, keySpan);
    }

    private int aWorth() {
        return random.nextInt(6) == 0 ? Model.MISSING : random.nextBoolean() ? from(-4, 4) : from(-999, 999);
    }

    private int aBound() {
        return random.nextInt(4) == 0 ? Model.OPEN : random.nextInt(3) == 0 ? from(-20, 20) : from(-3, 3);
    }

    private boolean same(String name, long got, long want, int... args) {
        StringBuilder text = new StringBuilder(name);
        for (int arg : args) {
            text.append(' ').append(arg);
        }
        call = text.append(" answered ").append(got).append(", due is ").append(want).toString();
        return got == want;
    }

    private boolean deed() {
        switch (random.nextInt(13)) {
            case 0: case 1: case 2: case 3: {
                int part = from(0, partsUsed - 1);
                int key = aKey();
                int worth = aWorth();
                return same("put", desk.put(part, key, worth), model.put(part, key, worth), part, key, worth);
            }
            case 4: {
                int r = aRow();
                return same("take", desk.take(r), model.take(r), r);
            }
            case 5: case 6: {
                int r = aRow();
                int key = aKey();
                int worth = aWorth();
                return same("change", desk.change(r, key, worth), model.change(r, key, worth), r, key, worth);
            }
            case 7: case 8: case 9: {
                int mode = from(0, 2);
                int begin = aBound();
                int end = aBound();
                int less = from(0, 3);
                return same("frame", desk.frame(mode, begin, end, less), model.frame(mode, begin, end, less), mode, begin, end, less);
            }
            case 10: {
                boolean is = random.nextBoolean();
                return same("ahead", desk.ahead(is), model.ahead(is), is ? 1 : 0);
            }
            case 11: {
                int n = random.nextInt(4) == 0 ? from(1, 20) : from(1, 3);
                return same("drift", desk.drift(n), model.drift(n), n);
            }
            default: {
                int n = random.nextInt(3) == 0 ? from(1, 20) : from(1, 4);
                return same("undo", desk.undo(n), model.undo(n), n);
            }
        }
    }

    private boolean question() {
        int r = aRow();
        switch (random.nextInt(11)) {
            case 0: case 1: {
                int what = from(0, 11);
                return same("told", desk.told(what), model.told(what), what);
            }
            case 2: case 3: {
                int what = from(0, 8);
                return same("row", desk.row(r, what), model.row(r, what), r, what);
            }
            case 4: return same("standing", desk.standing(r), model.standing(r), r);
            case 5: {
                int what = from(0, 8);
                return same("of", desk.of(r, what), model.of(r, what), r, what);
            }
            case 6: return same("rows", desk.rows(r), model.rows(r), r);
            case 7: {
                int k = from(0, 10);
                return same("inFrame", desk.inFrame(r, k), model.inFrame(r, k), r, k);
            }
            case 8: {
                int k = from(1, 20);
                return same("heap", desk.heap(r, k), model.heap(r, k), r, k);
            }
            case 9: {
                int d = from(-20, 20) / (1 + random.nextInt(6));
                return same("shift", desk.shift(r, d), model.shift(r, d), r, d);
            }
            default: {
                int part = from(0, partsUsed);
                int key = aKey();
                int what = from(0, 8);
                return random.nextBoolean() ? same("would", desk.would(part, key), model.would(part, key), part, key)
                    : same("best", desk.best(what), model.best(what), what);
            }
        }
    }

    private boolean bookOrImage() {
        switch (random.nextInt(12)) {
            case 0: return same("tear", desk.tear(), model.tear());
            case 1: case 2: {
                int v = random.nextBoolean() ? from(0, 1000) : random.nextInt() & Integer.MAX_VALUE;
                return same("seed", desk.seed(v), model.seed(v), v);
            }
            case 3: {
                int i = from(0, 1);
                return random.nextInt(3) != 0 || same("keep", desk.keep(i), model.keep(i), i);
            }
            case 4: {
                int i = from(0, 1);
                return random.nextInt(3) != 0 || same("goBack", desk.goBack(i), model.goBack(i), i);
            }
            default: {
                int r = aRow();
                int what = from(0, 8);
                int right = model.of(r, what);
                int v = random.nextInt(8) == 0 ? from(-5, 5) : right;
                return same("write", desk.write(r, what, v), model.write(r, what, v), r, what, v)
                    && same("told", desk.told(10), model.told(10), 10);
            }
        }
    }

    private boolean agrees() {
        for (int i = 0; i < CALLS; i++) {
            int kind = random.nextInt(20);
            boolean fits = kind < 8 ? deed() : kind < 18 ? question() : bookOrImage();
            if (!fits) {
                System.out.println("run " + run + ", call " + i + ": " + call);
                return false;
            }
        }
        return true;
    }

    public static void main(String[] args) {
        int wrong = 0;
        for (int run = 0; run < RUNS; run++) {
            if (!new ModelTest(run).agrees()) {
                wrong++;
            }
        }
        System.out.println(RUNS + " runs of " + CALLS + " calls, " + wrong + " not as the model");
        if (wrong != 0) {
            System.exit(1);
        }
    }
}
