/** The document's section 1, ROWS: each sentence that names a bound or an edge. */
public final class RowsEdgesTest extends Edges {
    private static void section1FortyRowsAtMost() {
        test("1 ROWS: 40 at most");
        FrameDesk x = new FrameDesk();
        list("put number ?", i -> x.put(i % 6, M, 0), numbersTo(40));
        due("the 41st", x.put(0, 0, 0), FULL);
        due("still", x.told(0), 40);
        due("the last", x.row(39, 0), 3);
        due("there is no 41st", x.row(40, 0), UNKNOWN);
        due("one goes", x.take(0), 39);
        due("room again", x.put(0, 0, 0), 39);
        due("and no more", x.put(0, 0, 0), FULL);
        due("one undone", x.undo(1), 39);
        due("room again", x.put(0, 0, 0), 39);
        due("and no more", x.put(0, 0, 0), FULL);
    }

    private static long[] numbersTo(int n) {
        long[] numbers = new long[n];
        for (int i = 0; i < n; i++) {
            numbers[i] = i;
        }
        return numbers;
    }

    private static void section1OneThatGoesLeavesLaterOnesOneLess() {
        test("1 ROWS: one that goes leaves later ones one number less");
        FrameDesk first = keys(10, 11, 12);
        first.take(0);
        list("the first gone: row(?, 1)", r -> first.row(r, 1), 11, 12, UNKNOWN);
        stand(first, 0, 1);
        FrameDesk middle = keys(10, 11, 12);
        middle.take(1);
        list("the middle gone: row(?, 1)", r -> middle.row(r, 1), 10, 12, UNKNOWN);
        stand(middle, 0, 1);
        FrameDesk last = keys(12, 11, 10);
        last.take(2);
        list("the last gone: row(?, 1)", r -> last.row(r, 1), 12, 11, UNKNOWN);
        stand(last, 1, 0);
        due("the next one's number", last.put(0, 13, 0), 2);
        FrameDesk full = line(40);
        full.take(0);
        due("of 40: the last", full.row(38, 1), 39);
        due("of 40: none behind it", full.row(39, 1), UNKNOWN);
        full.undo(1);
        due("undone: the numbers are back", full.row(39, 1), 39);
        due("undone: the first, too", full.row(0, 1), 0);
    }

    private static void section1PartZeroToFive() {
        test("1 ROWS: PART 0 .. 5");
        FrameDesk x = new FrameDesk();
        each("put(?, 0, 0)", part -> x.put(part, 0, 0), OUTSIDE, -1, 6, 99, M, -M, LOWEST, HIGHEST);
        due("put(0, 0, 0)", x.put(0, 0, 0), 0);
        due("put(5, 0, 0)", x.put(5, 0, 0), 1);
        list("row(?, 0)", r -> x.row(r, 0), 0, 5, UNKNOWN);
        each("would(?, 0)", part -> x.would(part, 0), OUTSIDE, -1, 6, 99, M, -M, LOWEST, HIGHEST);
        due("would(0, 0)", x.would(0, 0), 1);
        due("would(5, 0)", x.would(5, 0), 2);
    }

    private static void section1KeyOrMissing() {
        test("1 ROWS: KEY -99 .. 99, or MISSING");
        FrameDesk x = new FrameDesk();
        int[] others = {-100, 100, 999, 1000, -M, M - 1, M + 1, LOWEST, HIGHEST};
        each("put(0, ?, 0)", key -> x.put(0, key, 0), OUTSIDE, others);
        due("put(0, -99, 0)", x.put(0, -99, 0), 0);
        due("put(0, 99, 0)", x.put(0, 99, 0), 1);
        due("put(0, MISSING, 0)", x.put(0, M, 0), 2);
        list("row(?, 1)", r -> x.row(r, 1), -99, 99, M);
        each("change(0, ?, 0)", key -> x.change(0, key, 0), OUTSIDE, others);
        each("would(0, ?)", key -> x.would(0, key), OUTSIDE, others);
        list("row(?, 1), refused", r -> x.row(r, 1), -99, 99, M);
        due("change(1, -99, 0)", x.change(1, -99, 0), 0);
        due("change(2, 99, 0)", x.change(2, 99, 0), 0);
        due("change(0, MISSING, 0)", x.change(0, M, 0), 1);
        list("row(?, 1), changed", r -> x.row(r, 1), M, -99, 99);
        due("would(0, -99)", x.would(0, -99), 1);
        due("would(0, 99)", x.would(0, 99), 2);
        due("would(0, MISSING)", x.would(0, M), 3);
    }

    private static void section1WorthOrMissing() {
        test("1 ROWS: WORTH -999 .. 999, or MISSING");
        FrameDesk x = new FrameDesk();
        int[] others = {-1000, 1000, -M, M - 1, M + 1, LOWEST, HIGHEST};
        each("put(0, 0, ?)", worth -> x.put(0, 0, worth), OUTSIDE, others);
        due("put(0, 0, -999)", x.put(0, 0, -999), 0);
        due("put(0, 0, 999)", x.put(0, 0, 999), 1);
        due("put(0, 0, MISSING)", x.put(0, 0, M), 2);
        list("row(?, 2)", r -> x.row(r, 2), -999, 999, M);
        each("change(0, 0, ?)", worth -> x.change(0, 0, worth), OUTSIDE, others);
        list("row(?, 2), refused", r -> x.row(r, 2), -999, 999, M);
        due("change(1, 0, -999)", x.change(1, 0, -999), 0);
        due("change(2, 0, 999)", x.change(2, 0, 999), 0);
        due("change(0, 0, MISSING)", x.change(0, 0, M), 0);
        list("row(?, 2), changed", r -> x.row(r, 2), M, -999, 999);
    }

    private static void section1StandByPartFirst() {
        test("1 ROWS: they STAND by PART");
        stand(desk(new int[] {5, -99, 0}, new int[] {0, M, 0}, new int[] {4, 0, 0}, new int[] {1, 99, 0}), 1, 3, 2, 0);
        stand(new FrameDesk());
    }

    private static void section1StandByKeyRising() {
        test("1 ROWS: in it by KEY, rising");
        stand(keys(99, -99, 0, -1, 1), 1, 3, 2, 4, 0);
    }

    private static void section1MissingBehindAllOrAhead() {
        test("1 ROWS: MISSING ones behind all, or ahead of all, if that is told");
        FrameDesk x = desk(new int[] {1, M, 0}, new int[] {1, 99, 0}, new int[] {1, -99, 0}, new int[] {0, 0, 0}, new int[] {2, 0, 0});
        stand(x, 3, 2, 1, 0, 4);
        due("ahead(true)", x.ahead(true), 3);
        stand(x, 3, 0, 2, 1, 4);
        due("ahead(false)", x.ahead(false), 3);
        stand(x, 3, 2, 1, 0, 4);
    }

    private static void section1LikeOnesByNumber() {
        test("1 ROWS: of like ones by number");
        stand(keys(3, 2, 3, M, 2, M, 3), 1, 4, 0, 2, 6, 3, 5);
        FrameDesk x = keys(M, 3, M, 3);
        x.ahead(true);
        stand(x, 0, 2, 1, 3);
        FrameDesk full = like(40, 1);
        list("40 like ones: standing(?)", k -> full.standing(k), numbersTo(40));
    }

    private static void section1PlaceCountsItsPartAlone() {
        test("1 ROWS: PLACE is how many of its PART stand ahead of it");
        FrameDesk x = desk(new int[] {0, 5, 0}, new int[] {3, 5, 0}, new int[] {3, 5, 0}, new int[] {3, -5, 0}, new int[] {5, 0, 0});
        list("row(?, 3)", r -> x.row(r, 3), 0, 1, 2, 0, 0);
        list("of all: row(?, 7)", r -> x.row(r, 7), 0, 2, 3, 1, 4);
        FrameDesk full = like(40, 1);
        list("row(?, 3) of 40", r -> full.row(r, 3), numbersTo(40));
        list("row(?, 7) of 40", r -> full.row(r, 7), numbersTo(40));
    }

    private static void section1PeersAndMissingIsTheSameAsMissing() {
        test("1 ROWS: PEERS, MISSING is the same as MISSING, itself, too");
        FrameDesk x = desk(new int[] {0, M, 0}, new int[] {0, M, 0}, new int[] {0, 4, 0}, new int[] {1, M, 0}, new int[] {1, 4, 0}, new int[] {1, 4, 9});
        list("row(?, 6)", r -> x.row(r, 6), 2, 2, 1, 1, 2, 2);
        due("all 40", like(40, 1).row(39, 6), 40);
        due("itself alone", line(40).row(39, 6), 1);
    }

    private static void section1GroupsFromZeroOn() {
        test("1 ROWS: GROUPS of a PART are its unlike KEYS, in order, from 0 on");
        FrameDesk x = keys(M, 7, -7, 7, M, 99);
        // DENSE is 1 and the GROUP.
        list("row(?, 5)", r -> x.row(r, 5), 4, 2, 1, 2, 4, 3);
        due("GROUPS", x.told(2), 4);
        x.ahead(true);
        list("MISSING ahead: row(?, 5)", r -> x.row(r, 5), 1, 3, 2, 3, 1, 4);
        due("GROUPS, no ROWS", new FrameDesk().told(2), 0);
        due("GROUPS of 40 like ones", like(40, 1).told(2), 1);
        due("GROUPS of 40 unlike ones", line(40).told(2), 40);
        due("DENSE of the 40th", line(40).row(39, 5), 40);
        FrameDesk parts = desk(new int[] {0, 3, 0}, new int[] {1, 3, 0}, new int[] {1, 4, 0});
        list("each PART from 0 on: row(?, 5)", r -> parts.row(r, 5), 1, 1, 2);
        due("the same KEY in two PARTS", parts.told(2), 3);
    }

    public static void main(String[] args) {
        section1FortyRowsAtMost();
        section1OneThatGoesLeavesLaterOnesOneLess();
        section1PartZeroToFive();
        section1KeyOrMissing();
        section1WorthOrMissing();
        section1StandByPartFirst();
        section1StandByKeyRising();
        section1MissingBehindAllOrAhead();
        section1LikeOnesByNumber();
        section1PlaceCountsItsPartAlone();
        section1PeersAndMissingIsTheSameAsMissing();
        section1GroupsFromZeroOn();
        end();
    }
}
