import java.util.ArrayList;
import java.util.List;
import java.util.function.Consumer;
import java.util.function.Supplier;
import java.util.function.ToLongFunction;

/** The document's "Terms": refusals, their order, and that what is refused, or asked, changes nothing. */
public final class TermsEdgesTest extends Edges {
    /** How many calls one object is good for. */
    private static final int CALLS = 512;
    /** Nothing OF A FRAME, so that an entry with it would be WRONG. */
    private static final int NEVER = -7777777;
    private static final int[] NO_IMAGES = {-1, 2, LOWEST, HIGHEST};
    private static final int[] NO_PARTS = {-1, 6, M, LOWEST, HIGHEST};
    private static final int[] NO_KEYS = {-100, 100, -M, M - 1, M + 1, LOWEST, HIGHEST};
    private static final int[] NO_WORTHS = {-1000, 1000, -M, M - 1, M + 1, LOWEST, HIGHEST};
    private static final int[] NO_BOUNDS = {-21, 21, 98, 100, -OPEN, LOWEST, HIGHEST};
    private static final int[] NO_TIMES = {0, 21, -1, LOWEST, HIGHEST};
    private static final int[] NO_SHIFTS = {-21, 21, LOWEST, HIGHEST};
    private static final int[] NOT_OF_FRAME = {-1, 9, LOWEST, HIGHEST};

    /** A call, how it is told, and its answer. */
    private record Call(String text, ToLongFunction<FrameDesk> ask, long answer) { }

    /** Desks alike, as many as are asked for, and what is known of them. */
    private record Ready(String name, Supplier<FrameDesk> make, int calls, int rows, int undoable, int imagesKept, boolean isBookFull) { }

    // ---- desks made ready

    private static final Ready EMPTY = new Ready("empty", FrameDesk::new, 0, 0, 0, 0, false);
    private static final Ready SOME = new Ready("some", TermsEdgesTest::some, 40, 9, 11, 1, false);
    private static final Ready FILLED = new Ready("filled", TermsEdgesTest::filled, 95, 40, 20, 2, true);

    private static FrameDesk some() {
        FrameDesk x = new FrameDesk();
        x.seed(99);
        x.drift(3);
        x.keep(0);
        int[][] rows = {{5, 99, 999}, {5, M, -999}, {0, -99, M}, {0, -99, 4}, {2, 7, 4}, {2, M, M}, {2, M, 0}};
        for (int[] row : rows) {
            x.put(row[0], row[1], row[2]);
        }
        x.frame(1, -3, OPEN, 3);
        x.ahead(true);
        x.change(4, 6, 5);
        x.take(1);
        for (int what = 0; what < 9; what++) {
            x.write(what, what, x.of(what, what));
        }
        return x;
    }

    private static FrameDesk filled() {
        FrameDesk x = new FrameDesk();
        x.seed(7);
        x.drift(20);
        x.keep(0);
        x.drift(20);
        x.frame(2, -1, 1, 1);
        x.keep(1);
        for (int i = 0; i < 24; i++) {
            x.change(i, i % 5, 3 * i - 30);
        }
        x.ahead(true);
        for (int i = 0; i < 20; i++) {
            x.write(2 * i, i % 9, x.of(2 * i, i % 9));
        }
        return x;
    }

    // ---- all that calls show

    private static void showRows(FrameDesk x, List<Long> shown) {
        for (int r = -1; r <= 40; r++) {
            for (int what = 0; what < 8; what++) {
                shown.add((long) x.row(r, what));
            }
        }
    }

    private static void showFrames(FrameDesk x, List<Long> shown) {
        for (int r = 0; r < 40; r++) {
            for (int what = 0; what < 9; what++) {
                shown.add((long) x.of(r, what));
            }
        }
    }

    private static void showSets(FrameDesk x, List<Long> shown) {
        for (int r = 0; r < 40; r++) {
            shown.add(x.rows(r));
            shown.add((long) x.inFrame(r, 0));
            shown.add((long) x.inFrame(r, 2));
            shown.add((long) x.heap(r, 3));
            shown.add((long) x.shift(r, 1));
            shown.add((long) x.shift(r, -2));
            shown.add((long) x.row(r, 8));
        }
    }

    private static void showWhole(FrameDesk x, List<Long> shown) {
        for (int what = 0; what < 12; what++) {
            shown.add((long) x.told(what));
        }
        for (int k = -1; k <= 40; k++) {
            shown.add((long) x.standing(k));
        }
        for (int what = 0; what < 9; what++) {
            shown.add((long) x.best(what));
        }
        for (int part = 0; part < 6; part++) {
            for (int key : new int[] {-99, 0, 5, 99, M}) {
                shown.add((long) x.would(part, key));
            }
        }
    }

    private static void showState(FrameDesk x, List<Long> shown) {
        for (int what = 0; what < 12; what++) {
            shown.add((long) x.told(what));
        }
        for (int r = 0; r < 40; r++) {
            for (int what = 0; what < 3; what++) {
                shown.add((long) x.row(r, what));
            }
        }
        shown.add((long) x.seed(0));
    }

    private static void showDraws(FrameDesk x, List<Long> shown) {
        x.take(0);
        x.take(0);
        shown.add((long) x.drift(3));
        showState(x, shown);
    }

    private static void showBook(FrameDesk x, List<Long> shown) {
        shown.add((long) x.told(9));
        shown.add((long) x.told(10));
        for (int i = 0; i < 30; i++) {
            x.change(i, -i, i);
            shown.add((long) x.told(10));
        }
        for (int i = 0; i < 41; i++) {
            shown.add((long) x.take(40 - i));
            shown.add((long) x.told(10));
        }
        shown.add((long) x.tear());
    }

    private static List<Consumer<List<Long>>> views(Supplier<FrameDesk> made) {
        List<Consumer<List<Long>>> views = new ArrayList<>();
        views.add(shown -> showRows(made.get(), shown));
        views.add(shown -> showFrames(made.get(), shown));
        views.add(shown -> showSets(made.get(), shown));
        views.add(shown -> showWhole(made.get(), shown));
        views.add(shown -> showState(made.get(), shown));
        views.add(shown -> showDraws(made.get(), shown));
        views.add(shown -> showBook(made.get(), shown));
        for (int n = 1; n <= 20; n++) {
            int undone = n;
            views.add(shown -> {
                FrameDesk x = made.get();
                shown.add((long) x.undo(undone));
                showState(x, shown);
            });
        }
        for (int i = 0; i < 2; i++) {
            int image = i;
            views.add(shown -> {
                FrameDesk x = made.get();
                shown.add((long) x.goBack(image));
                showState(x, shown);
            });
        }
        return views;
    }

    /** Two desks alike, the call made on one of them: all that calls show of both is the same. */
    private static void changesNothing(Ready ready, Call call) {
        due(ready.name + ": " + call.text, call.ask.applyAsLong(ready.make.get()), call.answer);
        List<Consumer<List<Long>>> without = views(ready.make);
        List<Consumer<List<Long>>> with = views(() -> {
            FrameDesk x = ready.make.get();
            call.ask.applyAsLong(x);
            return x;
        });
        for (int i = 0; i < without.size(); i++) {
            List<Long> before = new ArrayList<>();
            List<Long> after = new ArrayList<>();
            without.get(i).accept(before);
            with.get(i).accept(after);
            due(ready.name + ": " + call.text + ", then view " + i + " is the same", before.equals(after) ? 1 : 0, 1);
            due("view " + i + " keeps to the calls that there are", ready.calls + before.size() + 50 <= CALLS ? 1 : 0, 1);
        }
    }

    // ---- what is refused

    private static void add(List<Call> calls, String text, long answer, ToLongFunction<FrameDesk> ask) {
        calls.add(new Call(text, ask, answer));
    }

    private static List<Call> withoutSuchARow(Ready ready) {
        List<Call> calls = new ArrayList<>();
        for (int r : new int[] {-1, ready.rows, 40, 64, LOWEST, HIGHEST}) {
            add(calls, "row(" + r + ", 0)", UNKNOWN, x -> x.row(r, 0));
            add(calls, "row(" + r + ", 8)", UNKNOWN, x -> x.row(r, 8));
            add(calls, "row(" + r + ", 9)", UNKNOWN, x -> x.row(r, 9));
            add(calls, "take(" + r + ")", UNKNOWN, x -> x.take(r));
            add(calls, "change(" + r + ", 0, 0)", UNKNOWN, x -> x.change(r, 0, 0));
            add(calls, "change(" + r + ", 100, 0)", UNKNOWN, x -> x.change(r, 100, 0));
            add(calls, "change(" + r + ", 0, 1000)", UNKNOWN, x -> x.change(r, 0, 1000));
            add(calls, "of(" + r + ", 0)", UNKNOWN, x -> x.of(r, 0));
            add(calls, "of(" + r + ", 9)", UNKNOWN, x -> x.of(r, 9));
            add(calls, "rows(" + r + ")", 0, x -> x.rows(r));
            add(calls, "inFrame(" + r + ", 0)", UNKNOWN, x -> x.inFrame(r, 0));
            add(calls, "inFrame(" + r + ", -1)", UNKNOWN, x -> x.inFrame(r, -1));
            add(calls, "heap(" + r + ", 1)", UNKNOWN, x -> x.heap(r, 1));
            add(calls, "heap(" + r + ", 0)", UNKNOWN, x -> x.heap(r, 0));
            add(calls, "shift(" + r + ", 0)", UNKNOWN, x -> x.shift(r, 0));
            add(calls, "shift(" + r + ", 21)", UNKNOWN, x -> x.shift(r, 21));
            add(calls, "write(" + r + ", 0, NEVER)", UNKNOWN, x -> x.write(r, 0, NEVER));
            add(calls, "write(" + r + ", 9, NEVER)", UNKNOWN, x -> x.write(r, 9, NEVER));
        }
        return calls;
    }

    private static List<Call> outsideForAnyDesk() {
        List<Call> calls = new ArrayList<>();
        for (int part : NO_PARTS) {
            add(calls, "put(" + part + ", 0, 0)", OUTSIDE, x -> x.put(part, 0, 0));
            add(calls, "would(" + part + ", 0)", OUTSIDE, x -> x.would(part, 0));
        }
        for (int key : NO_KEYS) {
            add(calls, "put(0, " + key + ", 0)", OUTSIDE, x -> x.put(0, key, 0));
            add(calls, "would(0, " + key + ")", OUTSIDE, x -> x.would(0, key));
        }
        for (int worth : NO_WORTHS) {
            add(calls, "put(0, 0, " + worth + ")", OUTSIDE, x -> x.put(0, 0, worth));
        }
        for (int bound : NO_BOUNDS) {
            add(calls, "frame(0, " + bound + ", 0, 0)", OUTSIDE, x -> x.frame(0, bound, 0, 0));
            add(calls, "frame(0, 0, " + bound + ", 0)", OUTSIDE, x -> x.frame(0, 0, bound, 0));
        }
        for (int what : new int[] {-1, 12, LOWEST, HIGHEST}) {
            add(calls, "told(" + what + ")", OUTSIDE, x -> x.told(what));
        }
        for (int mode : new int[] {-1, 3, LOWEST, HIGHEST}) {
            add(calls, "frame(" + mode + ", 0, 0, 0)", OUTSIDE, x -> x.frame(mode, 0, 0, 0));
        }
        for (int less : new int[] {-1, 4, LOWEST, HIGHEST}) {
            add(calls, "frame(0, 0, 0, " + less + ")", OUTSIDE, x -> x.frame(0, 0, 0, less));
        }
        for (int n : NO_TIMES) {
            add(calls, "drift(" + n + ")", OUTSIDE, x -> x.drift(n));
            add(calls, "undo(" + n + ")", OUTSIDE, x -> x.undo(n));
        }
        for (int what : NOT_OF_FRAME) {
            add(calls, "best(" + what + ")", OUTSIDE, x -> x.best(what));
        }
        add(calls, "seed(-1)", OUTSIDE, x -> x.seed(-1));
        add(calls, "seed(LOWEST)", OUTSIDE, x -> x.seed(LOWEST));
        return calls;
    }

    private static List<Call> outsideForARow(int r) {
        List<Call> calls = new ArrayList<>();
        for (int key : NO_KEYS) {
            add(calls, "change(" + r + ", " + key + ", 0)", OUTSIDE, x -> x.change(r, key, 0));
        }
        for (int worth : NO_WORTHS) {
            add(calls, "change(" + r + ", 0, " + worth + ")", OUTSIDE, x -> x.change(r, 0, worth));
        }
        for (int what : NOT_OF_FRAME) {
            add(calls, "row(" + r + ", " + what + ")", OUTSIDE, x -> x.row(r, what));
            add(calls, "of(" + r + ", " + what + ")", OUTSIDE, x -> x.of(r, what));
            add(calls, "write(" + r + ", " + what + ", NEVER)", OUTSIDE, x -> x.write(r, what, NEVER));
        }
        for (int k : NO_TIMES) {
            add(calls, "heap(" + r + ", " + k + ")", OUTSIDE, x -> x.heap(r, k));
        }
        for (int d : NO_SHIFTS) {
            add(calls, "shift(" + r + ", " + d + ")", OUTSIDE, x -> x.shift(r, d));
        }
        return calls;
    }

    private static List<Call> notNowOrFull(Ready ready) {
        List<Call> calls = new ArrayList<>();
        for (int i : NO_IMAGES) {
            add(calls, "keep(" + i + ")", UNKNOWN, x -> x.keep(i));
            add(calls, "goBack(" + i + ")", UNKNOWN, x -> x.goBack(i));
        }
        for (int i = ready.imagesKept; i < 2; i++) {
            int image = i;
            add(calls, "goBack(" + i + ")", NOT, x -> x.goBack(image));
        }
        for (int n = ready.undoable + 1; n <= 20; n++) {
            int many = n;
            add(calls, "undo(" + n + ")", NOT, x -> x.undo(many));
        }
        if (ready.rows == 40) {
            add(calls, "put(0, 0, 0)", FULL, x -> x.put(0, 0, 0));
            add(calls, "put(5, MISSING, MISSING)", FULL, x -> x.put(5, M, M));
        }
        if (ready.isBookFull) {
            add(calls, "write(0, 0, NEVER)", FULL, x -> x.write(0, 0, NEVER));
            add(calls, "write(39, 8, NEVER)", FULL, x -> x.write(39, 8, NEVER));
        }
        return calls;
    }

    private static void termsWhatIsRefusedChangesNothing(Ready ready) {
        test("Terms: what is refused changes nothing (" + ready.name + ")");
        List<Call> calls = new ArrayList<>();
        calls.addAll(withoutSuchARow(ready));
        calls.addAll(outsideForAnyDesk());
        if (ready.rows > 0) {
            calls.addAll(outsideForARow(0));
            calls.addAll(outsideForARow(ready.rows - 1));
        }
        calls.addAll(notNowOrFull(ready));
        for (Call call : calls) {
            changesNothing(ready, call);
        }
    }

    private static void section3AskedNothingChangesByIt(Ready ready) {
        test("3 ASKED: nothing changes by it (" + ready.name + ")");
        FrameDesk same = ready.make.get();
        List<Call> calls = new ArrayList<>();
        for (int what = 0; what < 12; what++) {
            int one = what;
            add(calls, "told(" + one + ")", same.told(one), x -> x.told(one));
            add(calls, "row(0, " + one + ")", same.row(0, one), x -> x.row(0, one));
            add(calls, "of(0, " + one + ")", same.of(0, one), x -> x.of(0, one));
            add(calls, "best(" + one + ")", same.best(one), x -> x.best(one));
        }
        int last = ready.rows - 1;
        add(calls, "row(last, 8)", same.row(last, 8), x -> x.row(last, 8));
        add(calls, "standing(0)", same.standing(0), x -> x.standing(0));
        add(calls, "standing(LOWEST)", NONE, x -> x.standing(LOWEST));
        add(calls, "standing(HIGHEST)", NONE, x -> x.standing(HIGHEST));
        add(calls, "rows(0)", same.rows(0), x -> x.rows(0));
        add(calls, "inFrame(0, 0)", same.inFrame(0, 0), x -> x.inFrame(0, 0));
        add(calls, "inFrame(0, HIGHEST)", same.inFrame(0, HIGHEST), x -> x.inFrame(0, HIGHEST));
        add(calls, "heap(0, 20)", same.heap(0, 20), x -> x.heap(0, 20));
        add(calls, "shift(0, -20)", same.shift(0, -20), x -> x.shift(0, -20));
        add(calls, "would(5, 99)", same.would(5, 99), x -> x.would(5, 99));
        add(calls, "would(0, MISSING)", same.would(0, M), x -> x.would(0, M));
        for (Call call : calls) {
            changesNothing(ready, call);
        }
    }

    // ---- the order of refusals

    private static void termsUnknownIsAheadOfOutside() {
        test("Terms: UNKNOWN is ahead of OUTSIDE");
        FrameDesk x = line(3);
        for (int r : new int[] {-1, 3, LOWEST, HIGHEST}) {
            each("row(" + r + ", ?)", what -> x.row(r, what), UNKNOWN, -1, 9, LOWEST, HIGHEST);
            each("of(" + r + ", ?)", what -> x.of(r, what), UNKNOWN, -1, 9, LOWEST, HIGHEST);
            each("heap(" + r + ", ?)", k -> x.heap(r, k), UNKNOWN, 0, 21, LOWEST, HIGHEST);
            each("shift(" + r + ", ?)", d -> x.shift(r, d), UNKNOWN, -21, 21, LOWEST, HIGHEST);
            each("change(" + r + ", ?, 0)", key -> x.change(r, key, 0), UNKNOWN, -100, 100, LOWEST, HIGHEST);
            each("change(" + r + ", 0, ?)", worth -> x.change(r, 0, worth), UNKNOWN, -1000, 1000, LOWEST, HIGHEST);
            each("write(" + r + ", ?, 0)", what -> x.write(r, what, 0), UNKNOWN, -1, 9, LOWEST, HIGHEST);
        }
    }

    private static void termsUnknownIsAheadOfNot() {
        test("Terms: UNKNOWN is ahead of NOT");
        FrameDesk x = new FrameDesk();
        each("goBack(?), none kept", i -> x.goBack(i), UNKNOWN, -1, 2, LOWEST, HIGHEST);
        each("goBack(?), none kept", i -> x.goBack(i), NOT, 0, 1);
    }

    private static void termsUnknownIsAheadOfFull() {
        test("Terms: UNKNOWN is ahead of FULL");
        FrameDesk x = filled();
        each("write(?, 0, 0), the BOOK full", r -> x.write(r, 0, 0), UNKNOWN, -1, 40, LOWEST, HIGHEST);
        each("write(?, 9, 0), the BOOK full", r -> x.write(r, 9, 0), UNKNOWN, -1, 40, LOWEST, HIGHEST);
        each("write(?, 0, 0), the BOOK full", r -> x.write(r, 0, 0), FULL, 0, 39);
    }

    private static void termsOutsideIsAheadOfNot() {
        test("Terms: OUTSIDE is ahead of NOT");
        FrameDesk x = new FrameDesk();
        each("undo(?), none to undo", n -> x.undo(n), OUTSIDE, 0, 21, -1, LOWEST, HIGHEST);
        each("undo(?), none to undo", n -> x.undo(n), NOT, 1, 20);
    }

    private static void termsOutsideIsAheadOfFull() {
        test("Terms: OUTSIDE is ahead of FULL");
        FrameDesk x = filled();
        each("put(?, 0, 0), 40 ROWS", part -> x.put(part, 0, 0), OUTSIDE, -1, 6, LOWEST, HIGHEST);
        each("put(0, ?, 0), 40 ROWS", key -> x.put(0, key, 0), OUTSIDE, -100, 100, LOWEST, HIGHEST);
        each("put(0, 0, ?), 40 ROWS", worth -> x.put(0, 0, worth), OUTSIDE, -1000, 1000, LOWEST, HIGHEST);
        each("put(?, 0, 0), 40 ROWS", part -> x.put(part, 0, 0), FULL, 0, 5);
        each("write(0, ?, 0), the BOOK full", what -> x.write(0, what, 0), OUTSIDE, -1, 9, LOWEST, HIGHEST);
        each("write(0, ?, 0), the BOOK full", what -> x.write(0, what, 0), FULL, 0, 8);
    }

    // ---- numbers and names

    private static void termsRefusalsAreFarBelowAllThatIsCounted() {
        test("Terms: refusals are far below all that is counted");
        due("UNKNOWN", UNKNOWN, -1000000001);
        due("OUTSIDE", OUTSIDE, -1000000002);
        due("NOT", NOT, -1000000003);
        due("FULL", FULL, -1000000004);
        due("the least SUM", like(40, -999).of(39, 2), -39960);
        due("the greatest SUM", like(40, 999).of(39, 2), 39960);
    }

    private static void termsMissingAndNone() {
        test("Terms: MISSING is 1000000, NONE is -1");
        due("MISSING", FrameDesk.MISSING, 1000000);
        due("NONE", FrameDesk.NONE, -1);
        due("OPEN", FrameDesk.OPEN, 99);
    }

    private static void termsNumbersFromZeroOn() {
        test("Terms: what has a number has it from 0 on");
        FrameDesk x = new FrameDesk();
        due("the first ROW", x.put(0, 5, 5), 0);
        due("the first that STANDS", x.standing(0), 0);
        due("the first of a FRAME", x.inFrame(0, 0), 0);
        due("its PLACE", x.row(0, 3), 0);
        due("its heap", x.heap(0, 1), 0);
        due("a wrong entry", x.write(0, 0, 2), 1);
        due("the first of THE BOOK", x.told(10), 0);
        due("the first IMAGE", x.keep(0), 1);
    }

    private static void termsASetHasBitKForK() {
        test("Terms: a SET has bit k for k");
        FrameDesk x = line(40);
        x.frame(0, 0, 0, 0);
        for (int r : new int[] {0, 1, 30, 31, 32, 38, 39}) {
            due("rows(" + r + ")", x.rows(r), 1L << r);
        }
        x.frame(0, OPEN, OPEN, 0);
        due("all 40", x.rows(0), 1099511627775L);
    }

    public static void main(String[] args) {
        for (Ready ready : new Ready[] {EMPTY, SOME, FILLED}) {
            termsWhatIsRefusedChangesNothing(ready);
            section3AskedNothingChangesByIt(ready);
        }
        termsUnknownIsAheadOfOutside();
        termsUnknownIsAheadOfNot();
        termsUnknownIsAheadOfFull();
        termsOutsideIsAheadOfNot();
        termsOutsideIsAheadOfFull();
        termsRefusalsAreFarBelowAllThatIsCounted();
        termsMissingAndNone();
        termsNumbersFromZeroOn();
        termsASetHasBitKForK();
        end();
    }
}
