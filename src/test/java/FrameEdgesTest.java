/** The document's section 2, THE FRAME: each sentence that names a bound or an edge. */
public final class FrameEdgesTest extends Edges {
    private static final int[] NO_BOUNDS = {-21, 21, 22, 98, 100, -OPEN, M, LOWEST, HIGHEST};

    private static FrameDesk framed(FrameDesk x, int mode, int begin, int end, int less) {
        x.frame(mode, begin, end, less);
        return x;
    }

    private static void section2AtFirst() {
        test("2 THE FRAME: at first MODE 0, BEGIN OPEN, END 0, LESS 0; MISSING behind");
        FrameDesk x = keys(4, M, 4, 1);
        list("told(3 + ?)", i -> x.told(3 + i), 0, 199, 100, 0, 0);
        stand(x, 3, 0, 2, 1);
        frames(x, set(3, 0), set(3, 0, 2, 1), set(3, 0, 2), set(3));
    }

    private static void section2BeginBounds() {
        test("2 THE FRAME: BEGIN -20 .. 20, or OPEN");
        FrameDesk x = line(3);
        each("frame(0, ?, 0, 0)", begin -> x.frame(0, begin, 0, 0), OUTSIDE, NO_BOUNDS);
        due("refused: BEGIN", x.told(4), 199);
        due("frame(0, -20, 0, 0)", x.frame(0, -20, 0, 0), 6);
        due("BEGIN and 100", x.told(4), 80);
        due("frame(0, 20, 0, 0)", x.frame(0, 20, 0, 0), 0);
        due("BEGIN and 100", x.told(4), 120);
        due("frame(0, OPEN, 0, 0)", x.frame(0, OPEN, 0, 0), 6);
        due("BEGIN and 100", x.told(4), 199);
    }

    private static void section2EndBounds() {
        test("2 THE FRAME: END -20 .. 20, or OPEN");
        FrameDesk x = line(3);
        each("frame(0, 0, ?, 0)", end -> x.frame(0, 0, end, 0), OUTSIDE, NO_BOUNDS);
        due("refused: END", x.told(5), 100);
        due("frame(0, 0, 20, 0)", x.frame(0, 0, 20, 0), 6);
        due("END and 100", x.told(5), 120);
        due("frame(0, 0, -20, 0)", x.frame(0, 0, -20, 0), 0);
        due("END and 100", x.told(5), 80);
        due("frame(0, 0, OPEN, 0)", x.frame(0, 0, OPEN, 0), 6);
        due("END and 100", x.told(5), 199);
    }

    /** With KEYS 0 .. 39 PLACES, KEYS and GROUPS are the same, so that all modes have the same FRAMES. */
    private static void section2TheFarthestBounds(int mode) {
        test("2 THE FRAME: MODE " + mode + ", the farthest bounds");
        FrameDesk x = line(40);
        due("frame(-20, 20)", x.frame(mode, -20, 20, 0), 1220);
        due("the first", x.rows(0), span(0, 20));
        due("row 19 to the end", x.rows(19), span(0, 39));
        due("row 20 from the beginning", x.rows(20), span(0, 39));
        due("row 21", x.rows(21), span(1, 39));
        due("the last", x.rows(39), span(19, 39));
        due("frame(20, 20)", x.frame(mode, 20, 20, 0), 20);
        due("the first", x.rows(0), set(20));
        due("the last that has one", x.rows(19), set(39));
        due("beyond the end", x.rows(20), 0);
        due("frame(-20, -20)", x.frame(mode, -20, -20, 0), 20);
        due("the last", x.rows(39), set(19));
        due("the first that has one", x.rows(20), set(0));
        due("beyond the beginning", x.rows(19), 0);
        due("frame(20, OPEN)", x.frame(mode, 20, OPEN, 0), 210);
        due("the first", x.rows(0), span(20, 39));
        due("frame(OPEN, -20)", x.frame(mode, OPEN, -20, 0), 210);
        due("the last", x.rows(39), span(0, 19));
        due("frame(OPEN, OPEN)", x.frame(mode, OPEN, OPEN, 0), 1600);
    }

    private static void section2BeginBehindEnd(int mode) {
        test("2 THE FRAME: MODE " + mode + ", from behind to ahead is empty");
        FrameDesk x = keys(1, 2, 2, 3);
        due("frame(1, 0)", x.frame(mode, 1, 0, 0), 0);
        due("frame(0, -1)", x.frame(mode, 0, -1, 0), 0);
        due("frame(20, -20)", x.frame(mode, 20, -20, 0), 0);
        frames(x, 0, 0, 0, 0);
        ofFrame(x, 1, 0, 0, 0, M, M, M, M, 0, M);
        due("inFrame", x.inFrame(1, 0), NONE);
    }

    private static void section2FramesStayInTheirPart() {
        test("2 THE FRAME: it is a row of ROWS of its PART");
        for (int mode = 0; mode < 3; mode++) {
            FrameDesk x = desk(new int[] {0, 5, 1}, new int[] {1, 5, 2}, new int[] {1, 6, 4}, new int[] {2, 5, 8});
            frames(framed(x, mode, OPEN, OPEN, 0), set(0), set(1, 2), set(1, 2), set(3));
            frames(framed(x, mode, -20, 20, 0), set(0), set(1, 2), set(1, 2), set(3));
        }
    }

    private static void section2ModeZeroCutsThroughPeers() {
        test("2 THE FRAME: MODE 0 is by PLACES, like KEYS or not");
        frames(framed(keys(5, 5, 5, M, M), 0, -1, 1, 0), set(0, 1), set(0, 1, 2), set(1, 2, 3), set(2, 3, 4), set(3, 4));
        frames(framed(keys(5, 5, 5), 0, 0, 0, 0), set(0), set(1), set(2));
    }

    private static void section2ModeOneBoundsAreInIt() {
        test("2 THE FRAME: MODE 1, KEYS from its own and BEGIN to its own and END");
        FrameDesk x = keys(-21, -20, 0, 0, 20, 21);
        x.frame(1, -20, 20, 0);
        due("KEY 0 sees -20 and 20, not -21 and 21", x.rows(2), set(1, 2, 3, 4));
        due("KEY -21", x.rows(0), set(0, 1));
        due("KEY 21", x.rows(5), set(4, 5));
        x.frame(1, 0, 0, 0);
        frames(x, set(0), set(1), set(2, 3), set(2, 3), set(4), set(5));
        x.frame(1, 1, 20, 0);
        due("KEY 0 from 1 to 20", x.rows(2), set(4));
        x.frame(1, -20, -1, 0);
        due("KEY 0 from -20 to -1", x.rows(2), set(1));
    }

    private static void section2ModeOneOutermostKeys() {
        test("2 THE FRAME: MODE 1, beyond the outermost KEYS there is nothing, MISSING neither");
        FrameDesk x = keys(-99, 99, M, -79, 79);
        x.frame(1, -20, 20, 0);
        frames(x, set(0, 3), set(1, 4), set(2), set(0, 3), set(1, 4));
        x.ahead(true);
        frames(x, set(0, 3), set(1, 4), set(2), set(0, 3), set(1, 4));
        x.frame(1, 20, 20, 0);
        frames(x, set(3), 0, set(2), 0, set(1));
        x.frame(1, -20, -20, 0);
        frames(x, 0, set(4), set(2), set(0), 0);
    }

    private static void section2ModeOneMissingHasItsPeers() {
        test("2 THE FRAME: MODE 1, if its KEY is MISSING, its PEERS");
        FrameDesk x = keys(M, 3, M, 4);
        int[][] bounds = {{0, 0}, {-20, 20}, {20, 20}, {-20, -20}, {1, 20}, {-20, -1}, {20, -20}};
        for (boolean ahead : new boolean[] {false, true}) {
            x.ahead(ahead);
            for (int[] bound : bounds) {
                x.frame(1, bound[0], bound[1], 0);
                due("rows(0) by " + bound[0] + " " + bound[1], x.rows(0), set(0, 2));
                due("rows(2) by " + bound[0] + " " + bound[1], x.rows(2), set(0, 2));
            }
        }
        FrameDesk parts = desk(new int[] {0, M, 0}, new int[] {1, M, 0}, new int[] {1, M, 0});
        frames(framed(parts, 1, 0, 0, 0), set(0), set(1, 2), set(1, 2));
    }

    private static void section2ModeOneOpenAlsoThen() {
        test("2 THE FRAME: MODE 1, a bound that is OPEN is where the PART begins, ends, also then");
        FrameDesk x = keys(M, 3, M, 4);
        due("behind, OPEN to 0", framed(x, 1, OPEN, 0, 0).rows(0), span(0, 3));
        due("behind, OPEN to -20", framed(x, 1, OPEN, -20, 0).rows(0), span(0, 3));
        due("behind, 0 to OPEN", framed(x, 1, 0, OPEN, 0).rows(0), set(0, 2));
        due("behind, 20 to OPEN", framed(x, 1, 20, OPEN, 0).rows(0), set(0, 2));
        due("behind, OPEN to OPEN", framed(x, 1, OPEN, OPEN, 0).rows(0), span(0, 3));
        x.ahead(true);
        due("ahead, OPEN to 0", framed(x, 1, OPEN, 0, 0).rows(0), set(0, 2));
        due("ahead, OPEN to -20", framed(x, 1, OPEN, -20, 0).rows(0), set(0, 2));
        due("ahead, 0 to OPEN", framed(x, 1, 0, OPEN, 0).rows(0), span(0, 3));
        due("ahead, 20 to OPEN", framed(x, 1, 20, OPEN, 0).rows(0), span(0, 3));
        due("ahead, OPEN to OPEN", framed(x, 1, OPEN, OPEN, 0).rows(0), span(0, 3));
    }

    private static void section2ModeOneMissingJustWhereOpenTakesThemIn() {
        test("2 THE FRAME: MODE 1, MISSING ones are in it just where an OPEN bound takes them in");
        FrameDesk x = keys(M, 3, M, 4);
        due("behind, from where it begins", framed(x, 1, OPEN, 20, 0).rows(1), set(1, 3));
        due("behind, to where it ends", framed(x, 1, -20, OPEN, 0).rows(1), set(1, 3, 0, 2));
        due("behind, to where it ends, no other KEY", framed(x, 1, 20, OPEN, 0).rows(3), set(0, 2));
        due("behind, no other KEY and no MISSING one", framed(x, 1, OPEN, -20, 0).rows(1), 0);
        x.ahead(true);
        due("ahead, from where it begins", framed(x, 1, OPEN, 20, 0).rows(1), set(0, 2, 1, 3));
        due("ahead, to where it ends", framed(x, 1, -20, OPEN, 0).rows(1), set(1, 3));
        due("ahead, from where it begins, no other KEY", framed(x, 1, OPEN, -20, 0).rows(1), set(0, 2));
        due("ahead, no other KEY and no MISSING one", framed(x, 1, 20, OPEN, 0).rows(3), 0);
        due("ahead, all", framed(x, 1, OPEN, OPEN, 0).rows(3), span(0, 3));
    }

    private static void section2ModeTwoGroups() {
        test("2 THE FRAME: MODE 2, GROUPS from its own and BEGIN to its own and END");
        FrameDesk x = keys(-99, 0, 0, 99, M, M);
        frames(framed(x, 2, 0, 0, 0), set(0), set(1, 2), set(1, 2), set(3), set(4, 5), set(4, 5));
        frames(framed(x, 2, 1, 1, 0), set(1, 2), set(3), set(3), set(4, 5), 0, 0);
        frames(framed(x, 2, -1, 0, 0), set(0), set(0, 1, 2), set(0, 1, 2), set(1, 2, 3), set(3, 4, 5), set(3, 4, 5));
        frames(framed(x, 2, OPEN, -1, 0), 0, set(0), set(0), span(0, 2), span(0, 3), span(0, 3));
        x.ahead(true);
        frames(framed(x, 2, -1, -1, 0), set(4, 5), set(0), set(0), set(1, 2), 0, 0);
        frames(framed(x, 2, 2, OPEN, 0), set(3), 0, 0, 0, span(1, 3), span(1, 3));
    }

    private static void section2ModeBounds() {
        test("2 THE FRAME: MODE 0 .. 2");
        FrameDesk x = keys(5, 5, 7);
        each("frame(?, 0, 0, 0)", mode -> x.frame(mode, 0, 0, 0), OUTSIDE, -1, 3, 99, LOWEST, HIGHEST);
        due("MODE 0", x.frame(0, 0, 0, 0), 3);
        due("told", x.told(3), 0);
        due("MODE 1", x.frame(1, 0, 2, 0), 7);
        due("told", x.told(3), 1);
        due("MODE 2", x.frame(2, 0, 1, 0), 7);
        due("told", x.told(3), 2);
    }

    private static void section2LessBounds() {
        test("2 THE FRAME: LESS 0 .. 3");
        FrameDesk x = keys(5, 5, 7);
        each("frame(0, 0, 0, ?)", less -> x.frame(0, OPEN, OPEN, less), OUTSIDE, -1, 4, 99, LOWEST, HIGHEST);
        list("frame(0, OPEN, OPEN, ?)", less -> x.frame(0, OPEN, OPEN, less), 9, 6, 4, 7);
        due("told", x.told(6), 3);
    }

    private static void section2LessItself() {
        test("2 THE FRAME: LESS 1, without itself");
        FrameDesk x = keys(5, 5, 7);
        frames(framed(x, 0, OPEN, OPEN, 1), set(1, 2), set(0, 2), set(0, 1));
        frames(framed(x, 0, 0, 0, 1), 0, 0, 0);
        frames(framed(x, 0, 1, OPEN, 1), set(1, 2), set(2), 0);
        frames(framed(x, 2, 0, 0, 1), set(1), set(0), 0);
    }

    private static void section2LessPeers() {
        test("2 THE FRAME: LESS 2, without its PEERS");
        FrameDesk x = keys(5, 5, 7, M, M);
        frames(framed(x, 0, OPEN, OPEN, 2), set(2, 3, 4), set(2, 3, 4), set(0, 1, 3, 4), set(0, 1, 2), set(0, 1, 2));
        frames(framed(x, 0, -1, 1, 2), 0, set(2), set(1, 3), set(2), 0);
        frames(framed(x, 1, 0, 0, 2), 0, 0, 0, 0, 0);
        frames(framed(x, 1, OPEN, 0, 2), 0, 0, set(0, 1), set(0, 1, 2), set(0, 1, 2));
    }

    private static void section2LessPeersButItself() {
        test("2 THE FRAME: LESS 3, without its PEERS but itself");
        FrameDesk x = keys(5, 5, 7, M, M);
        frames(framed(x, 0, OPEN, OPEN, 3), set(0, 2, 3, 4), set(1, 2, 3, 4), set(0, 1, 2, 3, 4), set(0, 1, 2, 3), set(0, 1, 2, 4));
        frames(framed(x, 2, 0, 0, 3), set(0), set(1), set(2), set(3), set(4));
        // What is not in it is not put in: row 0 is not among those behind it.
        frames(framed(x, 0, 1, 2, 3), set(2), set(2, 3), set(3, 4), 0, 0);
    }

    private static void section2TheFrameOfOneRow() {
        test("2 THE FRAME: of one ROW alone");
        for (int mode = 0; mode < 3; mode++) {
            FrameDesk x = keys(0);
            int same = mode;
            list("MODE " + mode + ", LESS ?", less -> x.frame(same, 0, 0, less), 1, 0, 0, 1);
            due("the next", framed(x, mode, 1, 1, 0).rows(0), 0);
            due("the one ahead", framed(x, mode, -1, -1, 0).rows(0), 0);
            due("all", framed(x, mode, OPEN, OPEN, 0).rows(0), 1);
        }
        due("no ROWS", new FrameDesk().frame(0, OPEN, OPEN, 0), 0);
    }

    public static void main(String[] args) {
        section2AtFirst();
        section2BeginBounds();
        section2EndBounds();
        for (int mode = 0; mode < 3; mode++) {
            section2TheFarthestBounds(mode);
            section2BeginBehindEnd(mode);
        }
        section2FramesStayInTheirPart();
        section2ModeZeroCutsThroughPeers();
        section2ModeOneBoundsAreInIt();
        section2ModeOneOutermostKeys();
        section2ModeOneMissingHasItsPeers();
        section2ModeOneOpenAlsoThen();
        section2ModeOneMissingJustWhereOpenTakesThemIn();
        section2ModeTwoGroups();
        section2ModeBounds();
        section2LessBounds();
        section2LessItself();
        section2LessPeers();
        section2LessPeersButItself();
        section2TheFrameOfOneRow();
        end();
    }
}
