/** The document's promises 1 to 23: the bounds and refusals of each call, without ROWS, with some, with 40. */
public final class CallsEdgesTest extends Edges {
    private static final int[] NO_ROW_OF_THREE = {-1, 3, 4, 39, 40, 63, 64, M, LOWEST, HIGHEST};
    private static final int[] NO_ROW_OF_FORTY = {-1, 40, 41, 64, LOWEST, HIGHEST};
    private static final int[] NOT_OF_FRAME = {-1, 9, 10, LOWEST, HIGHEST};

    private static void promise1NoRows() {
        test("Promise 1: a new object has no ROWS");
        FrameDesk x = new FrameDesk();
        list("told(?)", what -> x.told(what), 0, 0, 0, 0, 199, 100, 0, 0, 0, 0, NONE, 0);
        due("standing(0)", x.standing(0), NONE);
        due("rows(0)", x.rows(0), 0);
        due("row(0, 0)", x.row(0, 0), UNKNOWN);
        due("tear()", x.tear(), 0);
        due("seed(0)", x.seed(0), 0);
        each("goBack(?)", i -> x.goBack(i), NOT, 0, 1);
    }

    private static void promise2WhatBounds() {
        test("Promise 2: told, what 0 .. 11, OUTSIDE");
        FrameDesk x = line(3);
        each("told(?)", what -> x.told(what), OUTSIDE, -1, 12, 13, 99, LOWEST, HIGHEST);
        each("without ROWS: told(?)", what -> new FrameDesk().told(what), OUTSIDE, -1, 12, LOWEST, HIGHEST);
        due("told(0)", x.told(0), 3);
        due("told(11)", x.told(11), 3);
    }

    private static void promise2OfForty() {
        test("Promise 2: told of 40 ROWS");
        FrameDesk x = new FrameDesk();
        for (int i = 0; i < 40; i++) {
            x.put(i % 6, i / 6 % 2 == 0 ? M : 99, i);
        }
        list("told(?)", what -> x.told(what), 40, 6, 12, 0, 199, 100, 0, 0, 0, 0, NONE, 20);
        x.frame(0, OPEN, OPEN, 0);
        // PARTS of 7, 7, 7, 7, 6, 6: 21 pairs in each of four, 15 in each of two.
        due("ALIKE", x.told(8), 114);
    }

    private static void promise2PartsThatHaveAny() {
        test("Promise 2: told 1, PARTS that have any");
        FrameDesk x = new FrameDesk();
        list("a ROW of PART ?", part -> x.put(part, 0, 0) < 0 ? NONE : x.told(1), 1, 2, 3, 4, 5, 6);
        list("it goes, ?", i -> x.take(0) < 0 ? NONE : x.told(1), 5, 4, 3, 2, 1, 0);
    }

    private static void promise3Refusals() {
        test("Promise 3: row, what 0 .. 8, UNKNOWN, OUTSIDE");
        FrameDesk x = line(3);
        each("row(?, 0)", r -> x.row(r, 0), UNKNOWN, NO_ROW_OF_THREE);
        each("row(?, 8)", r -> x.row(r, 8), UNKNOWN, NO_ROW_OF_THREE);
        each("row(2, ?)", what -> x.row(2, what), OUTSIDE, NOT_OF_FRAME);
        each("row(?, 9)", r -> x.row(r, 9), UNKNOWN, NO_ROW_OF_THREE);
        each("40 ROWS: row(?, 0)", r -> line(40).row(r, 0), UNKNOWN, NO_ROW_OF_FORTY);
        each("no ROWS: row(?, 0)", r -> new FrameDesk().row(r, 0), UNKNOWN, 0, -1, 1, LOWEST, HIGHEST);
    }

    private static void promise3OfTheFirstAndTheLast() {
        test("Promise 3: row of the first and of the last of 40");
        FrameDesk x = line(40);
        list("row(0, ?)", what -> x.row(0, what), 0, 0, 0, 0, 1, 1, 1, 0, 0);
        list("row(39, ?)", what -> x.row(39, what), 0, 39, 39, 39, 40, 40, 1, 39, 0);
        list("row(20, ?)", what -> x.row(20, what), 0, 20, 20, 20, 21, 21, 1, 20, 19);
    }

    private static void promise4NotSoMany() {
        test("Promise 4: standing, NONE: not so many");
        FrameDesk x = line(3);
        each("standing(?)", k -> x.standing(k), NONE, NO_ROW_OF_THREE);
        due("standing(2)", x.standing(2), 2);
        each("40 ROWS: standing(?)", k -> line(40).standing(k), NONE, NO_ROW_OF_FORTY);
        due("40 ROWS: standing(39)", line(40).standing(39), 39);
        each("no ROWS: standing(?)", k -> new FrameDesk().standing(k), NONE, 0, -1, 1, LOWEST, HIGHEST);
    }

    private static void promise5Refusals() {
        test("Promise 5: put, OUTSIDE, FULL (40)");
        FrameDesk x = line(39);
        due("each number at its least", x.put(0, -99, -999), 39);
        x.take(39);
        due("each number at its greatest", x.put(5, 99, 999), 39);
        due("FULL", x.put(0, -99, -999), FULL);
        due("FULL, all MISSING", x.put(0, M, M), FULL);
        due("all three OUTSIDE", x.put(LOWEST, LOWEST, LOWEST), OUTSIDE);
        due("all three OUTSIDE", x.put(HIGHEST, HIGHEST, HIGHEST), OUTSIDE);
        due("PART is never MISSING", x.put(M, 0, 0), OUTSIDE);
        due("the last stays", x.row(39, 0), 5);
        due("deeds", x.told(11), 20);
        due("the put is the latest", x.undo(1), 39);
    }

    private static void promise6Refusals() {
        test("Promise 6: take, UNKNOWN");
        FrameDesk x = line(3);
        each("take(?)", r -> x.take(r), UNKNOWN, NO_ROW_OF_THREE);
        due("deeds", x.told(11), 3);
        due("take(2)", x.take(2), 2);
        due("take(2), gone", x.take(2), UNKNOWN);
        due("take(0)", x.take(0), 1);
        due("take(0)", x.take(0), 0);
        due("take(0), no ROWS", x.take(0), UNKNOWN);
        each("40 ROWS: take(?)", r -> line(40).take(r), UNKNOWN, NO_ROW_OF_FORTY);
        due("40 ROWS: take(39)", line(40).take(39), 39);
    }

    private static void promise7Refusals() {
        test("Promise 7: change, UNKNOWN, OUTSIDE");
        FrameDesk x = line(3);
        each("change(?, 0, 0)", r -> x.change(r, 0, 0), UNKNOWN, NO_ROW_OF_THREE);
        each("change(?, 100, 1000)", r -> x.change(r, 100, 1000), UNKNOWN, NO_ROW_OF_THREE);
        each("change(2, ?, 2)", key -> x.change(2, key, 2), OUTSIDE, -100, 100, M - 1, M + 1, LOWEST, HIGHEST);
        each("change(2, 2, ?)", worth -> x.change(2, 2, worth), OUTSIDE, -1000, 1000, M - 1, M + 1, LOWEST, HIGHEST);
        list("row(2, ?)", what -> x.row(2, what), 0, 2, 2);
        due("deeds", x.told(11), 3);
        each("40 ROWS: change(?, 0, 0)", r -> line(40).change(r, 0, 0), UNKNOWN, NO_ROW_OF_FORTY);
        each("no ROWS: change(?, 0, 0)", r -> new FrameDesk().change(r, 0, 0), UNKNOWN, 0, -1);
    }

    private static void promise7ElsewhereByHowManyAreAhead() {
        test("Promise 7: change, 1 it STANDS elsewhere, by how many are ahead of it, 0 not");
        due("the only one", keys(5).change(0, M, 0), 0);
        due("up to the one behind it, by number ahead", keys(1, 3).change(0, 3, 0), 0);
        due("past it", keys(1, 3).change(0, 4, 0), 1);
        due("down to the one ahead of it, by number behind", keys(1, 3).change(1, 1, 0), 0);
        due("past it", keys(1, 3).change(1, 0, 0), 1);
        due("from 99 to MISSING", keys(1, 99).change(1, M, 0), 0);
        due("to MISSING, by number ahead of the other", keys(99, M).change(0, M, 0), 0);
        FrameDesk ahead = keys(-99, 99);
        ahead.ahead(true);
        due("MISSING ahead: the last to MISSING", ahead.change(1, M, 0), 1);
        due("MISSING ahead: the other, too, by number", ahead.change(0, M, 0), 1);
        FrameDesk full = line(40);
        due("40 ROWS: the first to the end", full.change(0, 99, 0), 1);
        due("40 ROWS: it is the last", full.standing(39), 0);
        due("40 ROWS: the last alone", full.change(39, 39, 999), 0);
    }

    private static void promise8Refusals() {
        test("Promise 8: frame, MODE 0 .. 2; LESS 0 .. 3, OUTSIDE");
        FrameDesk x = line(3);
        each("frame(?, 0, 0, 0)", mode -> x.frame(mode, 0, 0, 0), OUTSIDE, -1, 3, LOWEST, HIGHEST);
        each("frame(0, ?, 0, 0)", begin -> x.frame(0, begin, 0, 0), OUTSIDE, -21, 21, 98, 100, LOWEST, HIGHEST);
        each("frame(0, 0, ?, 0)", end -> x.frame(0, 0, end, 0), OUTSIDE, -21, 21, 98, 100, LOWEST, HIGHEST);
        each("frame(0, 0, 0, ?)", less -> x.frame(0, 0, 0, less), OUTSIDE, -1, 4, LOWEST, HIGHEST);
        list("as at first: told(3 + ?)", i -> x.told(3 + i), 0, 199, 100, 0);
        due("deeds", x.told(11), 3);
        due("each at its least", x.frame(0, -20, -20, 0), 0);
        list("told(3 + ?)", i -> x.told(3 + i), 0, 80, 80, 0);
        due("each at its greatest", x.frame(2, OPEN, OPEN, 3), 9);
        list("told(3 + ?)", i -> x.told(3 + i), 2, 199, 199, 3);
    }

    private static void promise8HowManyRowsAllFramesHave() {
        test("Promise 8: frame, how many ROWS all FRAMES have together");
        due("no ROWS", new FrameDesk().frame(0, OPEN, OPEN, 0), 0);
        due("one", line(1).frame(0, OPEN, OPEN, 0), 1);
        due("40, all", line(40).frame(0, OPEN, OPEN, 0), 1600);
        due("40, less itself", line(40).frame(0, OPEN, OPEN, 1), 1560);
        due("40 like ones, less PEERS", like(40, 1).frame(0, OPEN, OPEN, 2), 0);
        due("40 like ones, less PEERS but itself", like(40, 1).frame(0, OPEN, OPEN, 3), 40);
        due("all empty", line(40).frame(0, 1, 0, 0), 0);
    }

    private static void promise9HowManyStandElsewhere() {
        test("Promise 9: ahead, how many ROWS STAND elsewhere");
        due("no ROWS", new FrameDesk().ahead(true), 0);
        due("one MISSING", keys(M).ahead(true), 0);
        due("none MISSING", line(40).ahead(true), 0);
        due("all MISSING", keys(M, M, M).ahead(true), 0);
        FrameDesk x = line(39);
        x.put(0, M, 0);
        due("one of 40", x.ahead(true), 40);
        due("as it was", x.ahead(true), 0);
        due("back", x.ahead(false), 40);
        due("as it was", x.ahead(false), 0);
        FrameDesk parts = desk(new int[] {0, M, 0}, new int[] {1, M, 0}, new int[] {1, 5, 0}, new int[] {2, 5, 0});
        due("in its PART alone", parts.ahead(true), 2);
        due("three go behind two", keys(1, 2, 3, M, M).ahead(true), 5);
        due("one goes behind two", keys(1, M, M).ahead(true), 3);
    }

    private static void promise10Refusals() {
        test("Promise 10: drift, 1 .. 20, OUTSIDE");
        FrameDesk x = new FrameDesk();
        each("drift(?)", n -> x.drift(n), OUTSIDE, 0, 21, -1, 40, LOWEST, HIGHEST);
        due("THE SEED", x.seed(0), 0);
        due("drift(1)", x.drift(1), 1);
        due("drift(20)", x.drift(20), 21);
        for (int r = 0; r < 21; r++) {
            due("drawn ROW " + r + " STANDS", x.standing(x.row(r, 7)), r);
        }
        due("deeds", x.told(11), 20);
        FrameDesk full = line(40);
        each("40 ROWS: drift(?)", n -> full.drift(n), OUTSIDE, 0, 21, -1, LOWEST, HIGHEST);
        each("40 ROWS: drift(?)", n -> full.drift(n), 40, 1, 20);
        due("40 ROWS: no deed", full.undo(1), 39);
    }

    private static void promise11Refusals() {
        test("Promise 11: undo, 1 .. 20, OUTSIDE, NOT: not so many");
        FrameDesk x = line(30);
        each("undo(?)", n -> x.undo(n), OUTSIDE, 0, 21, -1, 30, LOWEST, HIGHEST);
        due("undo(20)", x.undo(20), 10);
        each("none left: undo(?)", n -> x.undo(n), NOT, 1, 20);
        each("none left: undo(?)", n -> x.undo(n), OUTSIDE, 0, 21);
        FrameDesk y = line(3);
        due("undo(4)", y.undo(4), NOT);
        due("nothing was undone", y.told(0), 3);
        due("undo(3)", y.undo(3), 0);
        due("undo(1)", y.undo(1), NOT);
    }

    private static void promise12Refusals() {
        test("Promise 12: of, what 0 .. 8, UNKNOWN, OUTSIDE");
        FrameDesk x = line(3);
        each("of(?, 0)", r -> x.of(r, 0), UNKNOWN, NO_ROW_OF_THREE);
        each("of(?, 9)", r -> x.of(r, 9), UNKNOWN, NO_ROW_OF_THREE);
        each("of(2, ?)", what -> x.of(2, what), OUTSIDE, NOT_OF_FRAME);
        ofFrame(x, 2, 3, 3, 3, 0, 2, 0, 2, 3, 1);
        each("40 ROWS: of(?, 0)", r -> line(40).of(r, 0), UNKNOWN, NO_ROW_OF_FORTY);
        each("no ROWS: of(?, 0)", r -> new FrameDesk().of(r, 0), UNKNOWN, 0, -1, LOWEST, HIGHEST);
    }

    private static void promise13NoSuchRow() {
        test("Promise 13: rows, 0: there is no such ROW");
        FrameDesk x = line(3);
        each("rows(?)", r -> x.rows(r), 0, NO_ROW_OF_THREE);
        due("rows(2)", x.rows(2), 7);
        x.take(2);
        due("rows(2), gone", x.rows(2), 0);
        each("40 ROWS: rows(?)", r -> line(40).rows(r), 0, NO_ROW_OF_FORTY);
        each("no ROWS: rows(?)", r -> new FrameDesk().rows(r), 0, 0, -1, LOWEST, HIGHEST);
        x.frame(0, 20, 20, 0);
        due("an empty FRAME", x.rows(0), 0);
    }

    private static void promise14NoneAndUnknown() {
        test("Promise 14: inFrame, NONE, UNKNOWN");
        FrameDesk x = line(3);
        each("inFrame(?, 0)", r -> x.inFrame(r, 0), UNKNOWN, NO_ROW_OF_THREE);
        each("inFrame(?, -1)", r -> x.inFrame(r, -1), UNKNOWN, NO_ROW_OF_THREE);
        each("inFrame(1, ?)", k -> x.inFrame(1, k), NONE, -1, 2, 3, 40, LOWEST, HIGHEST);
        list("inFrame(1, ?)", k -> x.inFrame(1, k), 0, 1);
        x.frame(0, 20, 20, 0);
        each("an empty FRAME: inFrame(1, ?)", k -> x.inFrame(1, k), NONE, -1, 0, 1, LOWEST, HIGHEST);
        FrameDesk full = line(40);
        full.frame(0, OPEN, OPEN, 0);
        due("40 ROWS: inFrame(0, 39)", full.inFrame(0, 39), 39);
        each("40 ROWS: inFrame(0, ?)", k -> full.inFrame(0, k), NONE, -1, 40, LOWEST, HIGHEST);
        each("40 ROWS: inFrame(?, 0)", r -> full.inFrame(r, 0), UNKNOWN, NO_ROW_OF_FORTY);
    }

    private static void promise15Refusals() {
        test("Promise 15: heap, UNKNOWN, OUTSIDE");
        FrameDesk x = line(3);
        each("heap(?, 1)", r -> x.heap(r, 1), UNKNOWN, NO_ROW_OF_THREE);
        each("heap(?, 0)", r -> x.heap(r, 0), UNKNOWN, NO_ROW_OF_THREE);
        each("heap(2, ?)", k -> x.heap(2, k), OUTSIDE, 0, 21, -1, LOWEST, HIGHEST);
        due("heap(2, 1)", x.heap(2, 1), 0);
        due("heap(2, 20)", x.heap(2, 20), 2);
        each("40 ROWS: heap(?, 1)", r -> line(40).heap(r, 1), UNKNOWN, NO_ROW_OF_FORTY);
        each("no ROWS: heap(?, 1)", r -> new FrameDesk().heap(r, 1), UNKNOWN, 0, -1);
    }

    private static void promise16Refusals() {
        test("Promise 16: shift, NONE, UNKNOWN, OUTSIDE");
        FrameDesk x = line(3);
        each("shift(?, 0)", r -> x.shift(r, 0), UNKNOWN, NO_ROW_OF_THREE);
        each("shift(?, 21)", r -> x.shift(r, 21), UNKNOWN, NO_ROW_OF_THREE);
        each("shift(2, ?)", d -> x.shift(2, d), OUTSIDE, -21, 21, LOWEST, HIGHEST);
        each("shift(1, ?)", d -> x.shift(1, d), NONE, -20, -2, 2, 20);
        due("shift(1, -1)", x.shift(1, -1), 0);
        due("shift(1, 1)", x.shift(1, 1), 2);
        each("40 ROWS: shift(?, 0)", r -> line(40).shift(r, 0), UNKNOWN, NO_ROW_OF_FORTY);
    }

    private static void promise17Refusals() {
        test("Promise 17: best, what 0 .. 8; NONE, OUTSIDE");
        each("best(?)", what -> line(3).best(what), OUTSIDE, NOT_OF_FRAME);
        each("no ROWS: best(?)", what -> new FrameDesk().best(what), OUTSIDE, NOT_OF_FRAME);
        each("no ROWS: best(?)", what -> new FrameDesk().best(what), NONE, 0, 8);
        list("best(?)", what -> line(40).best(what), 39, 39, 39, 0, 39, 0, 39, 39, 38);
    }

    private static void promise18Refusals() {
        test("Promise 18: would, OUTSIDE");
        FrameDesk x = line(3);
        each("would(?, 0)", part -> x.would(part, 0), OUTSIDE, -1, 6, M, LOWEST, HIGHEST);
        each("would(0, ?)", key -> x.would(0, key), OUTSIDE, -100, 100, M - 1, M + 1, LOWEST, HIGHEST);
        due("both", x.would(6, 100), OUTSIDE);
        due("would(0, -99)", x.would(0, -99), 0);
        due("would(0, 99)", x.would(0, 99), 3);
        due("would(5, MISSING)", x.would(5, M), 3);
        each("40 ROWS: would(?, 0)", part -> line(40).would(part, 0), OUTSIDE, -1, 6);
        due("40 ROWS: would(0, 99)", line(40).would(0, 99), 40);
        due("nothing is put", x.told(0), 3);
    }

    private static void promise19Refusals() {
        test("Promise 19: write, what 0 .. 8; v any; UNKNOWN, OUTSIDE, FULL (20)");
        FrameDesk x = line(3);
        each("write(?, 0, 0)", r -> x.write(r, 0, 0), UNKNOWN, NO_ROW_OF_THREE);
        each("write(?, 9, 0)", r -> x.write(r, 9, 0), UNKNOWN, NO_ROW_OF_THREE);
        each("write(0, ?, 0)", what -> x.write(0, what, 0), OUTSIDE, NOT_OF_FRAME);
        due("no entries", x.told(9), 0);
        due("v LOWEST", x.write(0, 0, LOWEST), 1);
        due("v HIGHEST", x.write(2, 8, HIGHEST), 2);
        due("v a refusal", x.write(2, 8, UNKNOWN), 3);
        list("write(2, 0, 3), ? times", i -> x.write(2, 0, 3), 4, 5, 6, 7, 8, 9, 10, 11, 12, 13, 14, 15, 16, 17, 18, 19, 20);
        due("FULL", x.write(2, 0, 3), FULL);
        due("OUTSIDE, FULL", x.write(2, 9, 3), OUTSIDE);
        due("UNKNOWN, FULL", x.write(3, 0, 3), UNKNOWN);
        due("UNKNOWN, OUTSIDE, FULL", x.write(3, 9, 3), UNKNOWN);
        due("entries", x.told(9), 20);
        due("no ROWS", new FrameDesk().write(0, 0, 0), UNKNOWN);
        due("40 ROWS, the last", line(40).write(39, 0, 40), 1);
    }

    private static void promise19EachWhatIsJudged() {
        test("Promise 19: write, each of 0 to 8 is judged by its own answer");
        for (int what = 0; what < 9; what++) {
            FrameDesk x = worths(5, -1, M, 8, 2);
            int right = new int[] {5, 4, 14, -1, 8, 5, 2, 4, 2}[what];
            x.write(3, what, right);
            due("the right one of " + what, x.told(10), NONE);
            x.write(3, what, right - 1);
            due("1 less of " + what, x.told(10), 1);
            x.tear();
            x.write(3, what, right + 1);
            due("1 more of " + what, x.told(10), 0);
        }
    }

    private static void promise20HowMuchItHad() {
        test("Promise 20: tear, how much it had");
        FrameDesk x = line(1);
        due("nothing", x.tear(), 0);
        x.write(0, 0, 7);
        due("one", x.tear(), 1);
        due("nothing", x.tear(), 0);
        due("WRONG", x.told(10), NONE);
        for (int i = 0; i < 21; i++) {
            x.write(0, 0, 7);
        }
        due("twenty", x.tear(), 20);
        due("entries", x.told(9), 0);
        due("no deed", x.told(11), 1);
    }

    private static void promise21Bounds() {
        test("Promise 21: seed, 0 .. 2147483647, OUTSIDE");
        FrameDesk x = new FrameDesk();
        due("HIGHEST", x.seed(HIGHEST), 0);
        each("seed(?)", v -> x.seed(v), OUTSIDE, -1, -2, LOWEST);
        due("0", x.seed(0), HIGHEST);
        due("1", x.seed(1), 0);
        due("2147483646", x.seed(2147483646), 1);
        due("what it was", x.seed(0), 2147483646);
        due("no deed", x.told(11), 0);
    }

    private static void promise22Refusals() {
        test("Promise 22: keep, UNKNOWN; nothing can be undone then");
        FrameDesk x = line(3);
        each("keep(?)", i -> x.keep(i), UNKNOWN, -1, 2, 99, LOWEST, HIGHEST);
        due("all can be undone", x.told(11), 3);
        each("goBack(?)", i -> x.goBack(i), NOT, 0, 1);
        due("keep(1)", x.keep(1), 1);
        due("none can be undone", x.told(11), 0);
        due("undo(1)", x.undo(1), NOT);
        due("goBack(0): the other", x.goBack(0), NOT);
        x.put(0, 0, 0);
        due("keep(1) anew", x.keep(1), 1);
        due("none can be undone", x.told(11), 0);
        x.take(0);
        due("goBack(1)", x.goBack(1), 1);
        due("the newer one", x.told(0), 4);
        due("keep(0)", x.keep(0), 1);
        due("goBack(0)", x.goBack(0), 1);
    }

    private static void promise23Refusals() {
        test("Promise 23: goBack, UNKNOWN, NOT: it was not kept; nothing can be undone then");
        FrameDesk x = line(3);
        each("goBack(?)", i -> x.goBack(i), UNKNOWN, -1, 2, 99, LOWEST, HIGHEST);
        each("goBack(?)", i -> x.goBack(i), NOT, 0, 1);
        due("refused: all can be undone", x.told(11), 3);
        x.keep(0);
        x.put(0, 0, 0);
        each("one kept: goBack(?)", i -> x.goBack(i), UNKNOWN, -1, 2, LOWEST, HIGHEST);
        due("one kept: goBack(1)", x.goBack(1), NOT);
        due("refused: one can be undone", x.told(11), 1);
        due("refused: ROWS", x.told(0), 4);
        due("goBack(0)", x.goBack(0), 1);
        due("ROWS", x.told(0), 3);
        due("none can be undone", x.told(11), 0);
        due("again", x.goBack(0), 1);
    }

    public static void main(String[] args) {
        promise1NoRows();
        promise2WhatBounds();
        promise2OfForty();
        promise2PartsThatHaveAny();
        promise3Refusals();
        promise3OfTheFirstAndTheLast();
        promise4NotSoMany();
        promise5Refusals();
        promise6Refusals();
        promise7Refusals();
        promise7ElsewhereByHowManyAreAhead();
        promise8Refusals();
        promise8HowManyRowsAllFramesHave();
        promise9HowManyStandElsewhere();
        promise10Refusals();
        promise11Refusals();
        promise12Refusals();
        promise13NoSuchRow();
        promise14NoneAndUnknown();
        promise15Refusals();
        promise16Refusals();
        promise17Refusals();
        promise18Refusals();
        promise19Refusals();
        promise19EachWhatIsJudged();
        promise20HowMuchItHad();
        promise21Bounds();
        promise22Refusals();
        promise23Refusals();
        end();
    }
}
