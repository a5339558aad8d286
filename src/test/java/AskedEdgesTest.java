/** The document's section 3, ASKED: each sentence that names a bound or an edge. */
public final class AskedEdgesTest extends Edges {
    private static final long TWO_TO_THE_31 = 2147483648L;

    // ---- OF A FRAME

    private static void section3AnEmptyFrame() {
        test("3 OF A FRAME: 3 to 6, 8 are MISSING, if there is none; counts and SUM are 0");
        FrameDesk x = line(40);
        x.frame(0, 20, 20, 0);
        ofFrame(x, 39, 0, 0, 0, M, M, M, M, 0, M);
        FrameDesk one = worths(5);
        one.frame(0, 0, 0, 1);
        ofFrame(one, 0, 0, 0, 0, M, M, M, M, 0, M);
    }

    private static void section3NoWorthInTheFrame() {
        test("3 OF A FRAME: ROWS without a WORTH are ROWS, but have none");
        ofFrame(worths(M, M), 0, 2, 0, 0, M, M, M, M, 0, M);
    }

    private static void section3OneRowInTheFrame() {
        test("3 OF A FRAME: one ROW is first, last, least, greatest and the MIDDLE");
        ofFrame(worths(-999), 0, 1, 1, -999, -999, -999, -999, -999, 1, -999);
        ofFrame(worths(999), 0, 1, 1, 999, 999, 999, 999, 999, 1, 999);
        ofFrame(worths(0), 0, 1, 1, 0, 0, 0, 0, 0, 1, 0);
    }

    private static void section3FortyRowsInTheFrame() {
        test("3 OF A FRAME: 40 ROWS");
        FrameDesk x = line(40);
        x.frame(0, OPEN, OPEN, 0);
        ofFrame(x, 20, 40, 40, 780, 0, 39, 0, 39, 40, 19);
        ofFrame(like(40, 999), 39, 40, 40, 39960, 999, 999, 999, 999, 1, 999);
        ofFrame(like(40, -999), 39, 40, 40, -39960, -999, -999, -999, -999, 1, -999);
        ofFrame(like(40, M), 39, 40, 0, 0, M, M, M, M, 0, M);
    }

    private static void section3FirstAndLastAreMissingIfTheyAre() {
        test("3 OF A FRAME: 5 the first ROW's, 6 the last ROW's, MISSING if it is");
        ofFrame(worths(M, 4), 0, 2, 1, 4, 4, 4, M, 4, 1, 4);
        ofFrame(worths(4, M), 0, 2, 1, 4, 4, 4, 4, M, 1, 4);
        ofFrame(worths(M, 4, M), 0, 3, 1, 4, 4, 4, M, M, 1, 4);
        FrameDesk standing = keys(9, 3, 5);
        standing.frame(0, OPEN, OPEN, 0);
        due("the first that STANDS", standing.of(0, 5), 1);
        due("the last that STANDS", standing.of(0, 6), 0);
    }

    private static void section3UnlikeWorths() {
        test("3 OF A FRAME: 7 how many unlike WORTHS");
        due("like ones apart", worths(3, -3, 3, -3).of(0, 7), 2);
        due("MISSING is none", worths(3, M, M).of(0, 7), 1);
        due("0 is one", worths(0, M).of(0, 7), 1);
        due("all unlike", worths(3, 2, 1, 0, -1).of(0, 7), 5);
    }

    private static void section3TheMiddle() {
        test("3 OF A FRAME: 8 the MIDDLE, at place (how many less 1) / 2");
        due("of 1", worths(7).of(0, 8), 7);
        due("of 2, the lesser", worths(9, 7).of(0, 8), 7);
        due("of 3", worths(9, 8, 7).of(0, 8), 8);
        due("of 4", worths(9, 6, 8, 7).of(0, 8), 7);
        due("like ones count each", worths(9, 1, 1, 9, 9).of(0, 8), 9);
        due("MISSING ones do not count", worths(M, 9, M, 7, M, 5, M).of(0, 8), 7);
        due("by size, not as they stand", worths(-1, -999, 999).of(0, 8), -1);
    }

    // ---- RANK, DENSE, HEAP, SHIFT

    private static void section3RankAndDense() {
        test("3 RANK: 1 and how many of the PART stand ahead of its PEERS; DENSE: 1 and its GROUP");
        FrameDesk x = desk(new int[] {0, 0, 0}, new int[] {1, 4, 0}, new int[] {1, 4, 0}, new int[] {1, 4, 0},
            new int[] {1, 5, 0}, new int[] {1, M, 0}, new int[] {1, M, 0});
        list("row(?, 4)", r -> x.row(r, 4), 1, 1, 1, 1, 4, 5, 5);
        list("row(?, 5)", r -> x.row(r, 5), 1, 1, 1, 1, 2, 3, 3);
        x.ahead(true);
        list("MISSING ahead: row(?, 4)", r -> x.row(r, 4), 1, 3, 3, 3, 6, 1, 1);
        list("MISSING ahead: row(?, 5)", r -> x.row(r, 5), 1, 2, 2, 2, 3, 1, 1);
        due("RANK of 40 like ones", like(40, 0).row(39, 4), 1);
        due("DENSE of 40 like ones", like(40, 0).row(39, 5), 1);
        due("RANK of the 40th", line(40).row(39, 4), 40);
    }

    private static void section3HeapBounds() {
        test("3 HEAP of k: 1 .. 20");
        FrameDesk x = line(40);
        each("heap(39, ?)", k -> x.heap(39, k), OUTSIDE, 0, 21, -1, -20, 40, LOWEST, HIGHEST);
        due("heap(39, 1)", x.heap(39, 1), 0);
        due("heap(39, 20)", x.heap(39, 20), 19);
        due("heap(38, 20)", x.heap(38, 20), 19);
        due("heap(37, 20)", x.heap(37, 20), 18);
        due("heap(0, 20)", x.heap(0, 20), 0);
    }

    private static void section3HeapFirstOnesOneMore() {
        test("3 HEAP: as many in each, the first ones 1 more, if that does not come out");
        list("6 in 3: heap(?, 3)", r -> line(6).heap(r, 3), 0, 0, 1, 1, 2, 2);
        list("7 in 3: heap(?, 3)", r -> line(7).heap(r, 3), 0, 0, 0, 1, 1, 2, 2);
        list("8 in 3: heap(?, 3)", r -> line(8).heap(r, 3), 0, 0, 0, 1, 1, 1, 2, 2);
        list("9 in 3: heap(?, 3)", r -> line(9).heap(r, 3), 0, 0, 0, 1, 1, 1, 2, 2, 2);
        list("3 in 20: heap(?, 20)", r -> line(3).heap(r, 20), 0, 1, 2);
        due("1 in 20", line(1).heap(0, 20), 0);
        due("21 in 20: the second", line(21).heap(1, 20), 0);
        due("21 in 20: the third", line(21).heap(2, 20), 1);
        due("39 in 20: the last", line(39).heap(38, 20), 19);
        due("39 in 20: the one ahead of it", line(39).heap(37, 20), 18);
    }

    private static void section3HeapOfItsPartAsItStands() {
        test("3 HEAP: its PART, as it STANDS");
        FrameDesk x = desk(new int[] {1, 9, 0}, new int[] {1, 8, 0}, new int[] {0, 0, 0}, new int[] {0, 0, 0}, new int[] {1, M, 0});
        list("heap(?, 3)", r -> x.heap(r, 3), 1, 0, 0, 1, 2);
        x.ahead(true);
        list("MISSING ahead: heap(?, 3)", r -> x.heap(r, 3), 2, 1, 0, 1, 0);
    }

    private static void section3ShiftBounds() {
        test("3 SHIFT by d: -20 .. 20");
        FrameDesk x = line(40);
        each("shift(20, ?)", d -> x.shift(20, d), OUTSIDE, -21, 21, 99, -99, LOWEST, HIGHEST);
        due("shift(19, 20)", x.shift(19, 20), 39);
        due("shift(20, -20)", x.shift(20, -20), 0);
        due("shift(20, 20): there is none", x.shift(20, 20), NONE);
        due("shift(19, -20): there is none", x.shift(19, -20), NONE);
        due("shift(39, 1)", x.shift(39, 1), NONE);
        due("shift(0, -1)", x.shift(0, -1), NONE);
        due("shift(39, 0): itself", x.shift(39, 0), 39);
    }

    private static void section3ShiftStaysInItsPart() {
        test("3 SHIFT: the ROW of its PART, NONE");
        FrameDesk x = desk(new int[] {0, 1, 0}, new int[] {1, M, 0}, new int[] {1, 2, 0}, new int[] {2, 1, 0});
        list("shift(?, 1)", r -> x.shift(r, 1), NONE, NONE, 1, NONE);
        list("shift(?, -1)", r -> x.shift(r, -1), NONE, 2, NONE, NONE);
        x.ahead(true);
        list("MISSING ahead: shift(?, 1)", r -> x.shift(r, 1), NONE, 2, NONE, NONE);
        list("MISSING ahead: shift(?, -1)", r -> x.shift(r, -1), NONE, NONE, 1, NONE);
    }

    // ---- BEST, ALIKE, CHANGED, WOULD STAND

    private static void section3BestWithoutRows() {
        test("3 BEST: NONE");
        FrameDesk x = new FrameDesk();
        each("best(?)", what -> x.best(what), NONE, 0, 1, 2, 3, 4, 5, 6, 7, 8);
        x.put(0, 0, 0);
        x.take(0);
        each("the only ROW gone: best(?)", what -> x.best(what), NONE, 0, 1, 2, 3, 4, 5, 6, 7, 8);
    }

    private static void section3BestMissingIsLessThanAll() {
        test("3 BEST: MISSING is less than all");
        FrameDesk x = desk(new int[] {0, 0, M}, new int[] {1, 0, -999}, new int[] {2, 0, M});
        list("best(?)", what -> x.best(what), 0, 1, 0, 1, 1, 1, 1, 1, 1);
    }

    private static void section3BestOfLikeOnesTheLeastNumber() {
        test("3 BEST: of like ones the least number");
        FrameDesk x = like(40, 999);
        x.frame(0, OPEN, OPEN, 0);
        each("all 40 alike: best(?)", what -> x.best(what), 0, 0, 1, 2, 3, 4, 5, 6, 7, 8);
        FrameDesk missing = like(3, M);
        each("all MISSING: best(?)", what -> missing.best(what), 0, 3, 4, 5, 6, 8);
        FrameDesk low = like(40, -999);
        low.frame(0, OPEN, OPEN, 0);
        due("the least SUM of all: best(2)", low.best(2), 0);
        FrameDesk two = keys(9, 1, 5);
        two.frame(0, 0, 0, 0);
        due("the greatest, not the first that STANDS", two.best(4), 2);
        FrameDesk numbers = desk(new int[] {5, 0, 1}, new int[] {3, 0, 6}, new int[] {1, 0, 6});
        due("by number, not as they STAND", numbers.best(2), 1);
    }

    private static void section3AlikePairs() {
        test("3 ALIKE: how many pairs of ROWS have the same FRAME (as SETS)");
        due("no ROWS", new FrameDesk().told(8), 0);
        FrameDesk one = line(1);
        one.frame(0, OPEN, OPEN, 0);
        due("one ROW", one.told(8), 0);
        FrameDesk two = line(2);
        two.frame(0, OPEN, OPEN, 0);
        due("two alike", two.told(8), 1);
        two.frame(0, 0, 0, 0);
        due("two unlike", two.told(8), 0);
        FrameDesk full = line(40);
        full.frame(0, OPEN, OPEN, 0);
        due("all 40", full.told(8), 780);
        full.frame(0, 20, 20, 0);
        due("20 empty ones", full.told(8), 190);
        FrameDesk parts = desk(new int[] {0, 0, 7}, new int[] {1, 0, 7}, new int[] {1, 0, 7});
        parts.frame(0, OPEN, OPEN, 0);
        due("like WORTHS are not the same ROWS", parts.told(8), 1);
        parts.frame(0, 5, 5, 0);
        due("empty ones, over PARTS", parts.told(8), 3);
        parts.frame(0, OPEN, OPEN, 1);
        due("less itself", parts.told(8), 0);
    }

    private static void section3Changed() {
        test("3 CHANGED: for how many others the SUM would be another, were it gone");
        due("no others", line(1).row(0, 8), 0);
        due("the first of 40 like ones", like(40, 1).row(0, 8), 39);
        due("the last of 40", like(40, 1).row(39, 8), 0);
        due("a WORTH of 0", like(40, 0).row(0, 8), 0);
        due("no WORTH", like(40, M).row(0, 8), 0);
        FrameDesk other = desk(new int[] {0, 0, 5}, new int[] {1, 0, 5}, new int[] {1, 1, 5});
        list("its PART alone: row(?, 8)", r -> other.row(r, 8), 0, 1, 0);
        FrameDesk next = worths(5, 0, 5, 9);
        next.frame(0, 1, 1, 0);
        // Row 1 gone, row 0 sees row 2: 5 where it was 0. Row 2 gone, row 1 sees row 3: 9 where it was 5.
        list("PLACES close up: row(?, 8)", r -> next.row(r, 8), 0, 1, 1, 1);
        FrameDesk same = worths(5, 0, 0, 9);
        same.frame(0, 1, 1, 0);
        due("another ROW, the same SUM", same.row(1, 8), 0);
        FrameDesk peers = desk(new int[] {0, 4, 3}, new int[] {0, 4, 3});
        peers.frame(2, 0, 0, 2);
        due("less PEERS it was not in it", peers.row(0, 8), 0);
    }

    private static void section3WouldStand() {
        test("3 WOULD STAND: how many ROWS of all would STAND ahead");
        FrameDesk none = new FrameDesk();
        each("no ROWS: would(?, 0)", part -> none.would(part, 0), 0, 0, 5);
        each("no ROWS: would(0, ?)", key -> none.would(0, key), 0, -99, 99, M);
        FrameDesk full = like(40, 1);
        due("40 ROWS: behind like ones", full.would(0, 7), 40);
        due("40 ROWS: ahead", full.would(0, 6), 0);
        due("40 ROWS: MISSING", full.would(0, M), 40);
        due("40 ROWS: another PART", full.would(5, -99), 40);
        full.ahead(true);
        due("40 ROWS: MISSING ahead", full.would(0, M), 0);
        FrameDesk parts = desk(new int[] {1, M, 0}, new int[] {1, 99, 0}, new int[] {3, -99, 0});
        due("would(0, MISSING)", parts.would(0, M), 0);
        due("would(1, 99): behind the like one, ahead of MISSING", parts.would(1, 99), 1);
        due("would(1, MISSING): behind the like one", parts.would(1, M), 2);
        due("would(2, -99)", parts.would(2, -99), 2);
        due("would(3, -99)", parts.would(3, -99), 3);
        due("put there, it stands there", parts.row(parts.put(1, 99, 0), 7), 1);
    }

    // ---- THE BOOK

    private static void section3TheBookTwentyAtMost() {
        test("3 THE BOOK: 20 at most");
        FrameDesk x = line(2);
        list("entry ?", i -> x.write(1, 0, 2), 1, 2, 3, 4, 5, 6, 7, 8, 9, 10, 11, 12, 13, 14, 15, 16, 17, 18, 19, 20);
        due("the 21st", x.write(1, 0, 2), FULL);
        due("entries", x.told(9), 20);
        due("WRONG", x.told(10), NONE);
        due("all torn", x.tear(), 20);
        due("room again", x.write(1, 0, 2), 1);
    }

    private static void section3WrongIsTheFirstThatIsOtherwise() {
        test("3 THE BOOK: WRONG is the first that is otherwise now; NONE");
        FrameDesk x = line(2);
        due("no entries", x.told(10), NONE);
        for (int i = 0; i < 19; i++) {
            x.write(1, 2, 1);
        }
        due("all right", x.told(10), NONE);
        x.write(1, 2, 0);
        due("the last of 20", x.told(10), 19);
        x.change(1, 1, 0);
        due("the first of 20", x.told(10), 0);
        x.undo(1);
        due("as it was", x.told(10), 19);
    }

    private static void section3ARowThatThereIsNoMoreIsWrongToo() {
        test("3 THE BOOK: a ROW that there is no more: it is, too");
        FrameDesk x = line(3);
        x.frame(0, 0, 0, 0);
        x.write(0, 0, 1);
        x.write(2, 0, 1);
        due("all right", x.told(10), NONE);
        x.take(2);
        due("there is no ROW 2", x.told(10), 1);
        x.put(0, 0, 0);
        due("there is one again", x.told(10), NONE);
        x.undo(4);
        due("there is no ROW 2", x.told(10), 1);
        x.undo(1);
        x.undo(1);
        due("no ROWS", x.told(10), 0);
    }

    private static void section3MissingInTheBook() {
        test("3 THE BOOK: MISSING is told like any number");
        FrameDesk x = like(1, M);
        x.write(0, 3, M);
        due("right", x.told(10), NONE);
        x.change(0, 7, 0);
        due("there is one now", x.told(10), 0);
    }

    // ---- BY DRAWS

    private static long next(long seed) {
        return (seed * 1103515245L + 12345L) % TWO_TO_THE_31;
    }

    /** A SEED whose draw number `turn` (0, 1, 2) of n is this value. */
    private static int seedFor(int turn, int n, int value) {
        for (int seed = 0; seed < 100000; seed++) {
            long drawn = next(seed);
            for (int i = 0; i < turn; i++) {
                drawn = next(drawn);
            }
            if (drawn / 65536 % n == value) {
                return seed;
            }
        }
        return -1;
    }

    private static void drawnIs(int turn, int n, int value, int want) {
        FrameDesk x = new FrameDesk();
        x.seed(seedFor(turn, n, value));
        x.drift(1);
        due("draw " + value + " of " + n, x.row(0, turn), want);
    }

    private static void section3DrawsOfThreeTwelveTwentyOne() {
        test("3 BY DRAWS: of 3 (PART), of 12 (KEY; 11 is MISSING), of 21 (WORTH and 10; 20 is MISSING)");
        drawnIs(0, 3, 0, 0);
        drawnIs(0, 3, 1, 1);
        drawnIs(0, 3, 2, 2);
        drawnIs(1, 12, 0, 0);
        drawnIs(1, 12, 10, 10);
        drawnIs(1, 12, 11, M);
        drawnIs(2, 21, 0, -10);
        drawnIs(2, 21, 10, 0);
        drawnIs(2, 21, 19, 9);
        drawnIs(2, 21, 20, M);
    }

    private static void seedAfterOneDrift(int seed, int part, int key, int worth, int after) {
        FrameDesk x = new FrameDesk();
        x.seed(seed);
        due("drift(1) from " + seed, x.drift(1), 1);
        list("from " + seed + ": row(0, ?)", what -> x.row(0, what), part, key, worth);
        due("from " + seed + ": THE SEED", x.seed(0), after);
    }

    private static void section3SeedLeftOverByTwoToThe31() {
        test("3 BY DRAWS: THE SEED is left over by 2 to the 31");
        seedAfterOneDrift(0, 0, 0, 3, 654583775);
        seedAfterOneDrift(1, 2, 10, 2, 662824084);
        seedAfterOneDrift(2147483646, 2, 6, 3, 638103157);
        seedAfterOneDrift(2147483647, 2, 5, 3, 646343466);
        seedAfterOneDrift(1073741824, 1, 8, 7, 1728325599);
        seedAfterOneDrift(80477501, 1, 3, -10, 0);
        seedAfterOneDrift(1486203808, 1, 1, -3, 2147483647);
    }

    private static void section3DrawsWhileThereIsRoom() {
        test("3 BY DRAWS: n times, while there is room");
        FrameDesk x = line(39);
        due("room for one: drift(20)", x.drift(20), 40);
        due("drawn once: THE SEED", x.seed(5), 654583775);
        due("no room: drift(1)", x.drift(1), 40);
        due("no room: drift(20)", x.drift(20), 40);
        due("not drawn: THE SEED", x.seed(5), 5);
        due("it STANDS", x.standing(x.row(39, 7)), 39);
        due("one deed", x.undo(1), 39);
        FrameDesk y = line(20);
        due("room for 20: drift(20)", y.drift(20), 40);
        due("no more", y.put(0, 0, 0), FULL);
    }

    // ---- UNDONE, IMAGES

    private static void section3TwentyDeedsAreKept() {
        test("3 UNDONE: 20 at most are kept");
        FrameDesk x = line(20);
        due("20 deeds", x.told(11), 20);
        x.put(0, 20, 20);
        due("21 deeds", x.told(11), 20);
        due("20 undone", x.undo(20), 1);
        due("the first deed is kept no more", x.undo(1), NOT);
        due("none", x.told(11), 0);
        FrameDesk y = line(40);
        due("40 deeds: one undone", y.undo(1), 39);
        due("19 can be", y.told(11), 19);
        due("not 20", y.undo(20), NOT);
        due("19", y.undo(19), 20);
    }

    private static void section3EachDeedIsUndone() {
        test("3 UNDONE: put(), take(), change(), frame(), ahead(), each of the times BY DRAWS");
        FrameDesk x = new FrameDesk();
        x.put(0, M, 1);
        x.put(0, 2, 2);
        x.take(0);
        x.change(0, 3, 3);
        x.frame(1, 2, 3, 1);
        x.ahead(true);
        x.drift(2);
        due("deeds", x.told(11), 8);
        due("one of two times", x.undo(1), 2);
        due("the other", x.undo(1), 1);
        due("ahead", x.told(7), 1);
        x.undo(1);
        due("ahead() undone", x.told(7), 0);
        due("MODE", x.told(3), 1);
        x.undo(1);
        list("frame() undone: told(3 + ?)", i -> x.told(3 + i), 0, 199, 100, 0);
        due("KEY", x.row(0, 1), 3);
        x.undo(1);
        due("change() undone: KEY", x.row(0, 1), 2);
        due("change() undone: WORTH", x.row(0, 2), 2);
        due("take() undone", x.undo(1), 2);
        stand(x, 1, 0);
        due("put() undone", x.undo(1), 1);
        stand(x, 0);
        due("put() undone", x.undo(1), 0);
        stand(x);
        due("no more", x.undo(1), NOT);
    }

    private static void section3OthersAreNoDeeds() {
        test("3 UNDONE: write(), tear(), seed(), undo() are no deeds");
        FrameDesk x = line(2);
        x.write(0, 0, 0);
        x.tear();
        x.write(0, 0, 7);
        x.seed(9);
        due("two puts alone", x.told(11), 2);
        x.undo(1);
        due("one less", x.told(11), 1);
        due("THE BOOK stays", x.told(9), 1);
        due("its entry, too", x.told(10), 0);
    }

    private static void section3UndoneWithFortyRows() {
        test("3 UNDONE: ROWS are as ahead of them, the last of 40, too");
        FrameDesk x = line(40);
        x.take(39);
        x.put(5, M, M);
        due("it is another", x.row(39, 0), 5);
        due("undone", x.undo(2), 40);
        list("the last: row(39, ?)", what -> x.row(39, what), 0, 39, 39, 39);
        x.change(39, -99, 5);
        due("it is the first", x.standing(0), 39);
        x.undo(1);
        due("it is the last again", x.standing(39), 39);
        due("the first again", x.standing(0), 0);
    }

    private static void section3TheSeedStays() {
        test("3 UNDONE: THE SEED stays");
        FrameDesk x = new FrameDesk();
        x.drift(1);
        x.undo(1);
        due("after one drift", x.seed(3), 654583775);
        x.put(0, 0, 0);
        x.undo(1);
        due("as it was told", x.seed(0), 3);
    }

    private static void section3NothingAheadOfTheImageIsUndone() {
        test("3 UNDONE: deeds since the IMAGE");
        FrameDesk x = line(3);
        x.keep(0);
        due("none since", x.undo(1), NOT);
        x.put(0, 0, 0);
        due("not two", x.undo(2), NOT);
        due("one since", x.undo(1), 3);
        due("no more", x.undo(1), NOT);
        x.put(0, 0, 0);
        x.goBack(0);
        due("none since it was gone back to", x.undo(1), NOT);
        due("told", x.told(11), 0);
    }

    private static void section3ImagesZeroAndOne() {
        test("3 IMAGES 0, 1 keep these, THE SEED");
        FrameDesk x = line(1);
        each("keep(?)", i -> x.keep(i), UNKNOWN, -1, 2, LOWEST, HIGHEST);
        each("goBack(?)", i -> x.goBack(i), UNKNOWN, -1, 2, LOWEST, HIGHEST);
        each("goBack(?)", i -> x.goBack(i), NOT, 0, 1);
        x.seed(HIGHEST);
        x.keep(0);
        x.put(0, M, 1);
        x.frame(2, -20, 20, 3);
        x.ahead(true);
        x.seed(1);
        x.keep(1);
        x.take(0);
        x.take(0);
        due("goBack(0)", x.goBack(0), 1);
        list("IMAGE 0: told(?)", what -> x.told(what), 1, 1, 1, 0, 199, 100, 0, 0);
        due("IMAGE 0: THE SEED", x.seed(5), HIGHEST);
        due("goBack(1)", x.goBack(1), 1);
        list("IMAGE 1: told(?)", what -> x.told(what), 2, 1, 2, 2, 80, 120, 3, 1);
        stand(x, 1, 0);
        due("IMAGE 1: THE SEED", x.seed(5), 1);
    }

    private static void section3ImagesOfNoneAndOfForty() {
        test("3 IMAGES: of no ROWS, of 40");
        FrameDesk x = new FrameDesk();
        x.keep(0);
        for (int i = 0; i < 40; i++) {
            x.put(i / 8, i, i);
        }
        x.keep(1);
        x.take(39);
        x.put(5, M, M);
        due("goBack(0)", x.goBack(0), 1);
        due("no ROWS", x.told(0), 0);
        due("no ROW", x.row(0, 0), UNKNOWN);
        due("goBack(1)", x.goBack(1), 1);
        due("40 ROWS", x.told(0), 40);
        list("the last: row(39, ?)", what -> x.row(39, what), 4, 39, 39, 7);
        due("no more", x.put(0, 0, 0), FULL);
    }

    public static void main(String[] args) {
        section3AnEmptyFrame();
        section3NoWorthInTheFrame();
        section3OneRowInTheFrame();
        section3FortyRowsInTheFrame();
        section3FirstAndLastAreMissingIfTheyAre();
        section3UnlikeWorths();
        section3TheMiddle();
        section3RankAndDense();
        section3HeapBounds();
        section3HeapFirstOnesOneMore();
        section3HeapOfItsPartAsItStands();
        section3ShiftBounds();
        section3ShiftStaysInItsPart();
        section3BestWithoutRows();
        section3BestMissingIsLessThanAll();
        section3BestOfLikeOnesTheLeastNumber();
        section3AlikePairs();
        section3Changed();
        section3WouldStand();
        section3TheBookTwentyAtMost();
        section3WrongIsTheFirstThatIsOtherwise();
        section3ARowThatThereIsNoMoreIsWrongToo();
        section3MissingInTheBook();
        section3DrawsOfThreeTwelveTwentyOne();
        section3SeedLeftOverByTwoToThe31();
        section3DrawsWhileThereIsRoom();
        section3TwentyDeedsAreKept();
        section3EachDeedIsUndone();
        section3OthersAreNoDeeds();
        section3UndoneWithFortyRows();
        section3TheSeedStays();
        section3NothingAheadOfTheImageIsUndone();
        section3ImagesZeroAndOne();
        section3ImagesOfNoneAndOfForty();
        end();
    }
}
