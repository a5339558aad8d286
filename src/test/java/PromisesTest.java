import java.lang.reflect.Constructor;
import java.lang.reflect.Field;
import java.lang.reflect.Method;
import java.lang.reflect.Modifier;
import java.util.Set;
import java.util.TreeSet;

/** Each promise of the document by itself: ordinary inputs, the edges it names, wrong inputs. Answers worked out by hand. */
public final class PromisesTest {
    private static final int M = FrameDesk.MISSING;
    private static final int OPEN = FrameDesk.OPEN;
    private static final int NONE = FrameDesk.NONE;
    private static final int UNKNOWN = FrameDesk.UNKNOWN;
    private static final int OUTSIDE = FrameDesk.OUTSIDE;
    private static final int NOT = FrameDesk.NOT;
    private static final int FULL = FrameDesk.FULL;
    private static final int LOWEST = Integer.MIN_VALUE;
    private static final int HIGHEST = Integer.MAX_VALUE;

    private static int wrong = 0;
    private static int asked = 0;

    private static void due(String call, long got, long want) {
        asked++;
        if (got != want) {
            wrong++;
            System.out.println(call + " answered " + got + ", due is " + want);
        }
    }

    /** STANDING: 1 4 (PART 0, like KEYS), 5, 0 2 (like KEYS), 6, 3 (MISSING; all PART 2). */
    private static FrameDesk seven() {
        FrameDesk x = new FrameDesk();
        x.put(2, 4, 7);
        x.put(0, -3, M);
        x.put(2, 4, -7);
        x.put(2, M, 5);
        x.put(0, -3, 9);
        x.put(2, 1, 7);
        x.put(2, 10, M);
        return x;
    }

    /** n rows of PART 0, KEY and WORTH as their numbers. */
    private static FrameDesk line(int n) {
        FrameDesk x = new FrameDesk();
        for (int i = 0; i < n; i++) {
            x.put(0, i, i);
        }
        return x;
    }

    private static long set(int... rows) {
        long bits = 0;
        for (int r : rows) {
            bits |= 1L << r;
        }
        return bits;
    }

    private static void sets(String when, FrameDesk x, long... wanted) {
        for (int r = 0; r < wanted.length; r++) {
            due(when + ": rows(" + r + ")", x.rows(r), wanted[r]);
        }
    }

    private static void stands(String when, FrameDesk x, int... wanted) {
        for (int k = 0; k < wanted.length; k++) {
            due(when + ": standing(" + k + ")", x.standing(k), wanted[k]);
        }
        due(when + ": standing behind all", x.standing(wanted.length), NONE);
    }

    private static void face() {
        Set<String> found = new TreeSet<>();
        for (Method m : FrameDesk.class.getDeclaredMethods()) {
            if (!Modifier.isPrivate(m.getModifiers())) {
                found.add(m.toString());
            }
        }
        for (Field f : FrameDesk.class.getDeclaredFields()) {
            if (!Modifier.isPrivate(f.getModifiers())) {
                found.add(f.toString());
            }
        }
        for (Constructor<?> c : FrameDesk.class.getDeclaredConstructors()) {
            found.add(c.toString());
        }
        Set<String> wanted = new TreeSet<>();
        String[] methods = {"told(int)", "row(int,int)", "standing(int)", "put(int,int,int)", "take(int)",
            "change(int,int,int)", "frame(int,int,int,int)", "ahead(boolean)", "drift(int)", "undo(int)", "of(int,int)",
            "inFrame(int,int)", "heap(int,int)", "shift(int,int)", "best(int)", "would(int,int)", "write(int,int,int)",
            "tear()", "seed(int)", "keep(int)", "goBack(int)"};
        for (String method : methods) {
            wanted.add("public int FrameDesk." + method);
        }
        wanted.add("public long FrameDesk.rows(int)");
        wanted.add("public FrameDesk()");
        for (String name : new String[] {"NONE", "MISSING", "OPEN", "UNKNOWN", "OUTSIDE", "NOT", "FULL"}) {
            wanted.add("public static final int FrameDesk." + name);
        }
        due("the face is the document's", found.equals(wanted) ? 1 : 0, 1);
        due("the class is final", Modifier.isFinal(FrameDesk.class.getModifiers()) ? 1 : 0, 1);
        due("NONE", FrameDesk.NONE, -1);
        due("MISSING", FrameDesk.MISSING, 1000000);
        due("OPEN", FrameDesk.OPEN, 99);
        due("UNKNOWN", FrameDesk.UNKNOWN, -1000000001);
        due("OUTSIDE", FrameDesk.OUTSIDE, -1000000002);
        due("NOT", FrameDesk.NOT, -1000000003);
        due("FULL", FrameDesk.FULL, -1000000004);
    }

    /** What is behind the last row, from rows that went or past the room for 40, is in no answer. */
    private static void rowsThatWent() {
        FrameDesk x = new FrameDesk();
        for (int i = 0; i < 4; i++) {
            x.put(3, 5, 8);
        }
        x.put(3, M, 8);
        x.take(4);
        x.take(3);
        due("gone: PEERS", x.row(0, 6), 3);
        due("gone: heap", x.heap(2, 3), 2);
        due("gone: PARTS", x.told(1), 1);
        due("gone: GROUPS", x.told(2), 1);
        due("gone: ALIKE", x.told(8), 0);
        due("gone: CHANGED", x.row(0, 8), 2);
        due("gone: would", x.would(3, M), 3);
        due("gone: ahead", x.ahead(true), 0);
        due("gone: frame", x.frame(0, OPEN, OPEN, 0), 9);
        due("gone: best", x.best(0), 0);
        FrameDesk full = greatest();
        due("full: PEERS", full.row(39, 6), 40);
        due("full: heap", full.heap(39, 20), 19);
        due("full: PARTS", full.told(1), 1);
        due("full: GROUPS", full.told(2), 1);
        due("full: CHANGED", full.row(0, 8), 39);
        due("full: CHANGED by the last", full.row(39, 8), 0);
        due("full: would", full.would(0, 0), 40);
        due("full: ahead", full.ahead(true), 0);
        due("full: frame", full.frame(1, OPEN, OPEN, 0), 1600);
        due("full: ALIKE", full.told(8), 780);
        due("full: rows", full.rows(0), (1L << 40) - 1);
        due("full: MIDDLE", full.of(39, 8), 999);
        due("full: the last in the FRAME", full.inFrame(0, 39), 39);
    }

    private static void promise1New() {
        FrameDesk x = new FrameDesk();
        int[] wanted = {0, 0, 0, 0, 199, 100, 0, 0, 0, 0, NONE, 0};
        for (int what = 0; what < wanted.length; what++) {
            due("1 new told(" + what + ")", x.told(what), wanted[what]);
        }
        due("1 new standing(0)", x.standing(0), NONE);
        due("1 new row(0, 0)", x.row(0, 0), UNKNOWN);
        due("1 new seed is 0", x.seed(5), 0);
        due("1 new goBack(0)", x.goBack(0), NOT);
        due("1 new tear()", x.tear(), 0);
        FrameDesk other = new FrameDesk();
        other.put(0, 0, 0);
        due("1 objects share nothing", x.told(0), 0);
    }

    private static void promise2Told() {
        FrameDesk x = seven();
        int[] wanted = {7, 2, 5, 0, 199, 100, 0, 0, 0, 0, NONE, 7};
        for (int what = 0; what < wanted.length; what++) {
            due("2 told(" + what + ")", x.told(what), wanted[what]);
        }
        x.frame(2, -20, 20, 3);
        x.ahead(true);
        x.write(0, 0, 99);
        // Rows 3, 5 and 6 have no PEERS to lose, so theirs is the whole PART: 3 pairs.
        int[] then = {7, 2, 5, 2, 80, 120, 3, 1, 3, 1, 0, 9};
        for (int what = 0; what < then.length; what++) {
            due("2 then told(" + what + ")", x.told(what), then[what]);
        }
        x.frame(1, OPEN, OPEN, 0);
        due("2 alike, whole PARTS: 1 pair and 10", x.told(8), 11);
        due("2 OPEN begin", x.told(4), 199);
        due("2 OPEN end", x.told(5), 199);
        x.frame(0, 20, 20, 0);
        due("2 alike, all empty, over PARTS: 21", x.told(8), 21);
        x.frame(2, 0, 0, 0);
        due("2 alike, peers: 1 and 1", x.told(8), 2);
        due("2 told(-1)", x.told(-1), OUTSIDE);
        due("2 told(12)", x.told(12), OUTSIDE);
        due("2 told(LOWEST)", x.told(LOWEST), OUTSIDE);
        due("2 told(HIGHEST)", x.told(HIGHEST), OUTSIDE);
        for (int i = 0; i < 30; i++) {
            x.change(0, i, i);
        }
        due("2 at most 20 can be undone", x.told(11), 20);
        FrameDesk y = new FrameDesk();
        for (int part = 0; part < 6; part++) {
            y.put(part, 5, 5);
            y.put(part, M, 5);
            y.put(part, M, 5);
        }
        y.put(0, 7, 7);
        due("2 six PARTS", y.told(1), 6);
        due("2 MISSING is a GROUP", y.told(2), 13);
        FrameDesk z = line(3);
        z.put(4, 0, 0);
        due("2 a PART of one", z.told(1), 2);
    }

    private static void promise3Row() {
        FrameDesk x = seven();
        int[][] wanted = {
            {2, 4, 7, 1, 2, 2, 2, 3, 3},
            {0, -3, M, 0, 1, 1, 2, 0, 0},
            {2, 4, -7, 2, 2, 2, 2, 4, 2},
            {2, M, 5, 4, 5, 4, 1, 6, 0},
            {0, -3, 9, 1, 1, 1, 2, 1, 0},
            {2, 1, 7, 0, 1, 1, 1, 2, 4},
            {2, 10, M, 3, 4, 3, 1, 5, 0}};
        for (int r = 0; r < wanted.length; r++) {
            for (int what = 0; what < 9; what++) {
                due("3 row(" + r + ", " + what + ")", x.row(r, what), wanted[r][what]);
            }
        }
        x.ahead(true);
        due("3 ahead PLACE", x.row(3, 3), 0);
        due("3 ahead RANK", x.row(3, 4), 1);
        due("3 ahead DENSE", x.row(3, 5), 1);
        due("3 ahead, of all", x.row(3, 7), 2);
        due("3 ahead PLACE of the next", x.row(5, 3), 1);
        due("3 ahead RANK of like ones", x.row(2, 4), 3);
        due("3 ahead DENSE of like ones", x.row(2, 5), 3);
        due("3 row(7, 0)", x.row(7, 0), UNKNOWN);
        due("3 row(-1, 0)", x.row(-1, 0), UNKNOWN);
        due("3 row(HIGHEST, 0)", x.row(HIGHEST, 0), UNKNOWN);
        due("3 row(LOWEST, 9)", x.row(LOWEST, 9), UNKNOWN);
        due("3 row(7, 9): UNKNOWN is first", x.row(7, 9), UNKNOWN);
        due("3 row(6, 9)", x.row(6, 9), OUTSIDE);
        due("3 row(6, -1)", x.row(6, -1), OUTSIDE);
    }

    private static void changedByARowThatGoes() {
        FrameDesk x = line(6);
        x.frame(0, -1, 1, 0);
        // Sums 1 3 6 9 12 9. Without 2: 0 1 3 4 5 have sums 1 4 8 12 9: 1 and 3 .. differ.
        due("3 CHANGED, places", x.row(2, 8), 2);
        // Without 0 (worth 0): 1..5 have 3 6 9 12 9.
        due("3 CHANGED, nothing lost", x.row(0, 8), 0);
        x.frame(0, 1, 1, 1);
        // Sums 1 2 3 4 5 0; without 5: row 4 has 0.
        due("3 CHANGED, the last", x.row(5, 8), 1);
        x.frame(2, 2, 2, 0);
        // Sums 2 3 4 5 0 0; without 3: rows 0 1 2 4 5 have 2 4 5 0 0.
        due("3 CHANGED, groups move up", x.row(3, 8), 2);
        x.frame(1, 2, 2, 0);
        due("3 CHANGED, keys do not move up", x.row(3, 8), 1);
        due("3 CHANGED changes nothing", x.told(0), 6);
        due("3 CHANGED is no deed", x.told(11), 10);
        FrameDesk one = line(1);
        due("3 CHANGED, no others", one.row(0, 8), 0);
    }

    private static void promise4Standing() {
        FrameDesk x = seven();
        stands("4 behind", x, 1, 4, 5, 0, 2, 6, 3);
        due("4 standing(-1)", x.standing(-1), NONE);
        due("4 standing(LOWEST)", x.standing(LOWEST), NONE);
        due("4 standing(HIGHEST)", x.standing(HIGHEST), NONE);
        due("4 standing(39)", x.standing(39), NONE);
        due("4 standing(40)", x.standing(40), NONE);
        x.ahead(true);
        stands("4 ahead", x, 1, 4, 3, 5, 0, 2, 6);
    }

    private static void promise5Put() {
        FrameDesk x = new FrameDesk();
        due("5 put(0, -99, -999)", x.put(0, -99, -999), 0);
        due("5 put(5, 99, 999)", x.put(5, 99, 999), 1);
        due("5 put(5, M, M)", x.put(5, M, M), 2);
        due("5 put(-1, 0, 0)", x.put(-1, 0, 0), OUTSIDE);
        due("5 put(6, 0, 0)", x.put(6, 0, 0), OUTSIDE);
        due("5 put(0, -100, 0)", x.put(0, -100, 0), OUTSIDE);
        due("5 put(0, 100, 0)", x.put(0, 100, 0), OUTSIDE);
        due("5 put(0, -M, 0)", x.put(0, -M, 0), OUTSIDE);
        due("5 put(0, 0, -1000)", x.put(0, 0, -1000), OUTSIDE);
        due("5 put(0, 0, 1000)", x.put(0, 0, 1000), OUTSIDE);
        due("5 put(0, 0, M + 1)", x.put(0, 0, M + 1), OUTSIDE);
        due("5 put(0, M - 1, 0)", x.put(0, M - 1, 0), OUTSIDE);
        due("5 refused ones are no deeds", x.told(11), 3);
        due("5 refused ones are no rows", x.told(0), 3);
        due("5 the key stays", x.row(0, 1), -99);
        due("5 the part stays", x.row(1, 0), 5);
        due("5 the worth stays", x.row(1, 2), 999);
        for (int i = 3; i < 40; i++) {
            due("5 put, the number", x.put(i % 6, i, i), i);
        }
        due("5 the 41st", x.put(0, 0, 0), FULL);
        due("5 OUTSIDE is ahead of FULL", x.put(6, 0, 0), OUTSIDE);
        due("5 rows then", x.told(0), 40);
        x.frame(0, OPEN, OPEN, 0);
        due("5 bit 39 of a SET", x.rows(39) >>> 39, 1);
    }

    private static void promise6Take() {
        FrameDesk x = seven();
        due("6 take(7)", x.take(7), UNKNOWN);
        due("6 take(-1)", x.take(-1), UNKNOWN);
        due("6 take(HIGHEST)", x.take(HIGHEST), UNKNOWN);
        due("6 refused ones are no deeds", x.told(11), 7);
        due("6 take(2)", x.take(2), 6);
        stands("6 later ones have one number less", x, 1, 3, 4, 0, 5, 2);
        due("6 the row behind it", x.row(2, 1), M);
        due("6 the row ahead of it", x.row(1, 0), 0);
        due("6 take the last", x.take(5), 5);
        due("6 no such row then", x.row(5, 0), UNKNOWN);
        due("6 a taken one is a deed", x.told(11), 9);
        due("6 a new one has the next number", x.put(1, 1, 1), 5);
        FrameDesk one = line(1);
        due("6 none left", one.take(0), 0);
        due("6 none to take", one.take(0), UNKNOWN);
        FrameDesk full = line(40);
        due("6 of 40", full.take(0), 39);
        due("6 room again", full.put(0, 0, 0), 39);
    }

    private static void promise7Change() {
        FrameDesk x = seven();
        due("7 same", x.change(0, 4, 7), 0);
        due("7 same is a deed", x.told(11), 8);
        due("7 worth alone", x.change(0, 4, 8), 0);
        due("7 the worth", x.row(0, 2), 8);
        due("7 key, standing where it stood", x.change(6, 11, M), 0);
        due("7 the key", x.row(6, 1), 11);
        due("7 to MISSING, behind row 3 by number", x.change(6, M, M), 1);
        stands("7 then", x, 1, 4, 5, 0, 2, 3, 6);
        due("7 it was behind one with a KEY", x.change(3, 99, 1), 0);
        due("7 like ones by number", x.change(2, 1, 1), 1);
        stands("7 then row 2 is ahead of 5", x, 1, 4, 2, 5, 0, 3, 6);
        due("7 PART stays", x.row(2, 0), 2);
        due("7 change(7, 0, 0)", x.change(7, 0, 0), UNKNOWN);
        due("7 UNKNOWN is first", x.change(-1, 100, 0), UNKNOWN);
        due("7 change(0, 100, 0)", x.change(0, 100, 0), OUTSIDE);
        due("7 change(0, -100, 0)", x.change(0, -100, 0), OUTSIDE);
        due("7 change(0, 0, 1000)", x.change(0, 0, 1000), OUTSIDE);
        due("7 change(0, 0, -1000)", x.change(0, 0, -1000), OUTSIDE);
        due("7 refused ones change nothing", x.row(0, 1), 4);
        due("7 refused ones are no deeds", x.told(11), 13);
    }

    private static void promise8Frame() {
        FrameDesk x = seven();
        due("8 frame(0, OPEN, 0, 0)", x.frame(0, OPEN, 0, 0), 18);
        due("8 frame(0, -1, 1, 0)", x.frame(0, -1, 1, 0), 17);
        due("8 frame(0, OPEN, OPEN, 1)", x.frame(0, OPEN, OPEN, 1), 22);
        due("8 the same is a deed", x.told(11), 10);
        due("8 frame(2, 0, 0, 2)", x.frame(2, 0, 0, 2), 0);
        due("8 frame(1, 20, -20, 0): MISSING has its peers", x.frame(1, 20, -20, 0), 1);
        due("8 frame(-1, ..)", x.frame(-1, 0, 0, 0), OUTSIDE);
        due("8 frame(3, ..)", x.frame(3, 0, 0, 0), OUTSIDE);
        due("8 begin -21", x.frame(0, -21, 0, 0), OUTSIDE);
        due("8 begin 21", x.frame(0, 21, 0, 0), OUTSIDE);
        due("8 begin 98", x.frame(0, 98, 0, 0), OUTSIDE);
        due("8 begin 100", x.frame(0, 100, 0, 0), OUTSIDE);
        due("8 begin -99", x.frame(0, -99, 0, 0), OUTSIDE);
        due("8 end -21", x.frame(0, 0, -21, 0), OUTSIDE);
        due("8 end 21", x.frame(0, 0, 21, 0), OUTSIDE);
        due("8 end -99", x.frame(0, 0, -99, 0), OUTSIDE);
        due("8 less -1", x.frame(0, 0, 0, -1), OUTSIDE);
        due("8 less 4", x.frame(0, 0, 0, 4), OUTSIDE);
        due("8 refused ones are no deeds", x.told(11), 12);
        due("8 refused ones change nothing, BEGIN", x.told(4), 120);
        due("8 refused ones change nothing, MODE", x.told(3), 1);
        due("8 no rows", new FrameDesk().frame(2, -20, 20, 3), 0);
    }

    private static void promise9Ahead() {
        FrameDesk x = seven();
        due("9 ahead(false), nothing moves", x.ahead(false), 0);
        due("9 it is a deed all the same", x.told(11), 8);
        due("9 ahead(true)", x.ahead(true), 5);
        due("9 told", x.told(7), 1);
        due("9 again", x.ahead(true), 0);
        due("9 back", x.ahead(false), 5);
        due("9 told", x.told(7), 0);
        due("9 deeds", x.told(11), 11);
        stands("9 back", x, 1, 4, 5, 0, 2, 6, 3);
        FrameDesk all = new FrameDesk();
        all.put(0, M, 1);
        all.put(0, M, 2);
        due("9 all MISSING, none moves", all.ahead(true), 0);
        due("9 a row put then", all.put(0, -99, 3), 2);
        stands("9 it is behind", all, 0, 1, 2);
    }

    private static void promise10Drift() {
        FrameDesk x = new FrameDesk();
        due("10 drift(0)", x.drift(0), OUTSIDE);
        due("10 drift(21)", x.drift(21), OUTSIDE);
        due("10 drift(-1)", x.drift(-1), OUTSIDE);
        due("10 refused, SEED stays", x.seed(0), 0);
        due("10 drift(1)", x.drift(1), 1);
        // 0: 12345, 1406932606, 654583775: / 65536 is 0, 21468, 9988.
        due("10 PART", x.row(0, 0), 0);
        due("10 KEY", x.row(0, 1), 21468 % 12);
        due("10 WORTH", x.row(0, 2), 9988 % 21 - 10);
        due("10 SEED then", x.seed(0), 654583775);
        due("10 drift(20)", x.drift(20), 21);
        due("10 each is a deed", x.told(11), 20);
        due("10 undone one by one", x.undo(1), 20);
        x.drift(18);
        int last = x.seed(77);
        x.seed(last);
        due("10 while there is room", x.drift(20), 40);
        int held = x.seed(77);
        due("10 two were drawn", held == last ? 1 : 0, 0);
        x.seed(held);
        due("10 no room", x.drift(20), 40);
        due("10 nothing is drawn then", x.seed(0), held);
        due("10 two deeds", x.undo(2), 38);
        FrameDesk y = new FrameDesk();
        y.seed(HIGHEST);
        due("10 from the greatest SEED", y.drift(1), 1);
        long once = (2147483647L * 1103515245L + 12345L) % 2147483648L;
        due("10 the PART of it", y.row(0, 0), once / 65536 % 3);
        y.drift(20);
        for (int r = 0; r < 21; r++) {
            due("10 drawn rows stand", y.standing(y.row(r, 7)), r);
        }
        drawsCoverAll();
    }

    private static void drawsCoverAll() {
        long seed = 1;
        FrameDesk x = new FrameDesk();
        x.seed(1);
        int missingKeys = 0;
        int missingWorths = 0;
        for (int times = 0; times < 10; times++) {
            x.drift(20);
            for (int r = 0; r < 20; r++) {
                long[] n = {3, 12, 21};
                long[] got = new long[3];
                for (int i = 0; i < 3; i++) {
                    seed = (seed * 1103515245L + 12345L) % 2147483648L;
                    got[i] = seed / 65536 % n[i];
                }
                missingKeys += got[1] == 11 ? 1 : 0;
                missingWorths += got[2] == 20 ? 1 : 0;
                due("10 drawn PART", x.row(r, 0), got[0]);
                due("10 drawn KEY", x.row(r, 1), got[1] == 11 ? M : got[1]);
                due("10 drawn WORTH", x.row(r, 2), got[2] == 20 ? M : got[2] - 10);
            }
            x.undo(20);
        }
        due("10 some KEYS were MISSING", missingKeys > 0 ? 1 : 0, 1);
        due("10 some WORTHS were MISSING", missingWorths > 0 ? 1 : 0, 1);
    }

    private static void promise11Undo() {
        FrameDesk x = seven();
        due("11 undo(0)", x.undo(0), OUTSIDE);
        due("11 undo(21)", x.undo(21), OUTSIDE);
        due("11 undo(-1)", x.undo(-1), OUTSIDE);
        due("11 undo(8)", x.undo(8), NOT);
        x.take(0);
        x.change(0, 50, 50);
        x.frame(2, -4, 4, 3);
        x.ahead(true);
        x.seed(9);
        due("11 the seed and refused ones are no deeds", x.told(11), 11);
        due("11 ahead() undone", x.undo(1), 6);
        due("11 it is behind", x.told(7), 0);
        due("11 frame() is not", x.told(3), 2);
        due("11 frame() undone", x.undo(1), 6);
        due("11 MODE", x.told(3), 0);
        due("11 BEGIN", x.told(4), 199);
        due("11 END", x.told(5), 100);
        due("11 LESS", x.told(6), 0);
        due("11 change() undone", x.undo(1), 6);
        due("11 KEY", x.row(0, 1), -3);
        due("11 WORTH", x.row(0, 2), M);
        due("11 take() undone", x.undo(1), 7);
        stands("11 as it was", x, 1, 4, 5, 0, 2, 6, 3);
        due("11 told(11)", x.told(11), 7);
        due("11 put() undone, three", x.undo(3), 4);
        stands("11 four", x, 1, 0, 2, 3);
        due("11 told(11)", x.told(11), 4);
        due("11 not so many", x.undo(5), NOT);
        due("11 all", x.undo(4), 0);
        due("11 none", x.undo(1), NOT);
        due("11 THE SEED stays", x.seed(0), 9);
        undoOfMany();
    }

    private static void undoOfMany() {
        FrameDesk x = line(35);
        due("11 twenty", x.undo(20), 15);
        due("11 no more are kept", x.undo(1), NOT);
        due("11 the latest row", x.row(14, 1), 14);
        for (int i = 0; i < 25; i++) {
            x.change(0, i, i);
        }
        due("11 to the 5th change", x.undo(20), 15);
        due("11 its key", x.row(0, 1), 4);
        due("11 nothing left", x.told(11), 0);
        x.write(0, 5, 0);
        x.put(1, 0, 0);
        x.undo(1);
        due("11 the book stays", x.told(9), 1);
    }

    private static void promise12Of() {
        FrameDesk x = seven();
        x.frame(0, OPEN, OPEN, 0);
        // PART 2 as it stands: 7, 7, -7, M, 5. PART 0: M, 9.
        int[] two = {5, 4, 12, -7, 7, 7, 5, 3, 5};
        int[] zero = {2, 1, 9, 9, 9, M, 9, 1, 9};
        for (int what = 0; what < 9; what++) {
            due("12 of(6, " + what + ")", x.of(6, what), two[what]);
            due("12 of(1, " + what + ")", x.of(1, what), zero[what]);
        }
        x.ahead(true);
        x.frame(0, -1, 0, 0);
        due("12 the last ROW's is MISSING", x.of(6, 6), M);
        due("12 the first ROW's", x.of(6, 5), -7);
        x.frame(0, 20, 20, 0);
        int[] empty = {0, 0, 0, M, M, M, M, 0, M};
        for (int what = 0; what < 9; what++) {
            due("12 empty of(0, " + what + ")", x.of(0, what), empty[what]);
        }
        x.frame(0, 0, 0, 0);
        int[] missing = {1, 0, 0, M, M, M, M, 0, M};
        for (int what = 0; what < 9; what++) {
            due("12 one without WORTH of(1, " + what + ")", x.of(1, what), missing[what]);
        }
        due("12 of(7, 0)", x.of(7, 0), UNKNOWN);
        due("12 of(-1, 9)", x.of(-1, 9), UNKNOWN);
        due("12 of(0, 9)", x.of(0, 9), OUTSIDE);
        due("12 of(0, -1)", x.of(0, -1), OUTSIDE);
        FrameDesk y = new FrameDesk();
        int[] worths = {30, -10, 20, 10, -10, 0};
        for (int i = 0; i < worths.length; i++) {
            y.put(0, i, worths[i]);
        }
        int[] middles = {30, -10, 20, 10, 10, 0};
        for (int r = 0; r < worths.length; r++) {
            due("12 MIDDLE of the first " + (r + 1), y.of(r, 8), middles[r]);
        }
        due("12 unlike WORTHS", y.of(5, 7), 5);
        due("12 the greatest SUM", greatest().of(39, 2), 39960);
    }

    private static FrameDesk greatest() {
        FrameDesk x = new FrameDesk();
        for (int i = 0; i < 40; i++) {
            x.put(0, 0, 999);
        }
        return x;
    }

    private static void promise13Rows() {
        FrameDesk x = seven();
        sets("13 at first", x, set(5, 0), set(1), set(5, 0, 2), set(5, 0, 2, 6, 3), set(1, 4), set(5), set(5, 0, 2, 6));
        due("13 rows(7)", x.rows(7), 0);
        due("13 rows(-1)", x.rows(-1), 0);
        due("13 rows(40)", x.rows(40), 0);
        due("13 rows(HIGHEST)", x.rows(HIGHEST), 0);
        due("13 rows(LOWEST)", x.rows(LOWEST), 0);
        x.frame(0, -1, 1, 1);
        sets("13 less itself", x, set(5, 2), set(4), set(0, 6), set(6), set(1), set(0), set(2, 3));
        x.frame(0, -1, 1, 2);
        sets("13 less PEERS", x, set(5), 0, set(6), set(6), 0, set(0), set(2, 3));
        x.frame(0, -1, 1, 3);
        sets("13 less PEERS but itself", x, set(5, 0), set(1), set(2, 6), set(3, 6), set(4), set(0, 5), set(2, 6, 3));
        x.frame(0, 1, OPEN, 3);
        sets("13 itself was not in it", x, set(6, 3), 0, set(6, 3), 0, 0, set(0, 2, 6, 3), set(3));
        framesByKeys();
        framesByGroups();
    }

    private static void framesByKeys() {
        FrameDesk x = seven();
        x.frame(1, -3, 6, 0);
        sets("13 keys", x, set(5, 0, 2, 6), set(1, 4), set(5, 0, 2, 6), set(3), set(1, 4), set(5, 0, 2), set(6));
        x.frame(1, OPEN, -3, 0);
        sets("13 keys from where it begins", x, set(5), 0, set(5), set(5, 0, 2, 6, 3), 0, 0, set(5, 0, 2));
        x.frame(1, 3, OPEN, 0);
        sets("13 keys to where it ends", x, set(6, 3), 0, set(6, 3), set(3), 0, set(0, 2, 6, 3), set(3));
        x.frame(1, 3, -3, 0);
        sets("13 keys from behind to ahead", x, 0, 0, 0, set(3), 0, 0, 0);
        x.frame(1, OPEN, OPEN, 2);
        sets("13 all keys less PEERS", x, set(5, 6, 3), 0, set(5, 6, 3), set(5, 0, 2, 6), 0, set(0, 2, 6, 3), set(5, 0, 2, 3));
        x.ahead(true);
        x.frame(1, OPEN, -3, 0);
        sets("13 MISSING ahead, from where it begins", x, set(3, 5), 0, set(3, 5), set(3), 0, set(3), set(3, 5, 0, 2));
        x.frame(1, 3, OPEN, 0);
        sets("13 MISSING ahead, to where it ends", x, set(6), 0, set(6), set(3, 5, 0, 2, 6), 0, set(0, 2, 6), 0);
        x.frame(1, -20, 20, 0);
        sets("13 MISSING ahead, no OPEN bound", x, set(5, 0, 2, 6), set(1, 4), set(5, 0, 2, 6), set(3), set(1, 4), set(5, 0, 2, 6), set(5, 0, 2, 6));
        x.frame(1, 20, 20, 3);
        sets("13 a MISSING one less PEERS but itself", x, 0, 0, 0, set(3), 0, 0, 0);
        x.frame(1, 0, 0, 1);
        sets("13 a MISSING one less itself", x, set(2), set(4), set(0), 0, set(1), 0, 0);
        FrameDesk far = new FrameDesk();
        far.put(0, -99, 1);
        far.put(0, 99, 2);
        far.put(0, M, 3);
        far.frame(1, -20, 20, 0);
        sets("13 outermost keys", far, set(0), set(1), set(2));
    }

    private static void framesByGroups() {
        FrameDesk x = seven();
        x.frame(2, -1, 1, 0);
        sets("13 groups", x, set(5, 0, 2, 6), set(1, 4), set(5, 0, 2, 6), set(6, 3), set(1, 4), set(5, 0, 2), set(0, 2, 6, 3));
        x.frame(2, OPEN, -1, 0);
        sets("13 groups ahead", x, set(5), 0, set(5), set(5, 0, 2, 6), 0, 0, set(5, 0, 2));
        x.frame(2, 1, OPEN, 0);
        sets("13 groups behind", x, set(6, 3), 0, set(6, 3), 0, 0, set(0, 2, 6, 3), set(3));
        x.frame(2, 0, 0, 1);
        sets("13 its group less itself", x, set(2), set(4), set(0), 0, set(1), 0, 0);
        x.ahead(true);
        x.frame(2, 1, 1, 0);
        sets("13 the next group, MISSING ahead", x, set(6), 0, set(6), set(5), 0, set(0, 2), 0);
    }

    private static void promise14InFrame() {
        FrameDesk x = seven();
        int[] wanted = {5, 0, 2, 6, 3};
        for (int k = 0; k < 5; k++) {
            due("14 inFrame(3, " + k + ")", x.inFrame(3, k), wanted[k]);
        }
        due("14 behind the last", x.inFrame(3, 5), NONE);
        due("14 inFrame(3, -1)", x.inFrame(3, -1), NONE);
        due("14 inFrame(3, LOWEST)", x.inFrame(3, LOWEST), NONE);
        due("14 inFrame(3, HIGHEST)", x.inFrame(3, HIGHEST), NONE);
        due("14 inFrame(7, 0)", x.inFrame(7, 0), UNKNOWN);
        due("14 inFrame(-1, -1)", x.inFrame(-1, -1), UNKNOWN);
        x.frame(0, OPEN, OPEN, 2);
        due("14 less PEERS", x.inFrame(0, 1), 6);
        x.frame(2, 1, 1, 0);
        due("14 empty", x.inFrame(1, 0), NONE);
    }

    private static void promise15Heap() {
        FrameDesk x = line(10);
        int[][] wanted = {
            {1, 0, 0, 0, 0, 0, 0, 0, 0, 0, 0},
            {3, 0, 0, 0, 0, 1, 1, 1, 2, 2, 2},
            {4, 0, 0, 0, 1, 1, 1, 2, 2, 3, 3},
            {5, 0, 0, 1, 1, 2, 2, 3, 3, 4, 4},
            {10, 0, 1, 2, 3, 4, 5, 6, 7, 8, 9},
            {11, 0, 1, 2, 3, 4, 5, 6, 7, 8, 9},
            {20, 0, 1, 2, 3, 4, 5, 6, 7, 8, 9}};
        for (int[] one : wanted) {
            for (int r = 0; r < 10; r++) {
                due("15 heap(" + r + ", " + one[0] + ")", x.heap(r, one[0]), one[r + 1]);
            }
        }
        due("15 heap(0, 0)", x.heap(0, 0), OUTSIDE);
        due("15 heap(0, 21)", x.heap(0, 21), OUTSIDE);
        due("15 heap(0, -1)", x.heap(0, -1), OUTSIDE);
        due("15 heap(10, 0)", x.heap(10, 0), UNKNOWN);
        due("15 heap(-1, 1)", x.heap(-1, 1), UNKNOWN);
        FrameDesk y = seven();
        due("15 its PART alone", y.heap(3, 2), 1);
        due("15 its PART as it stands", y.heap(2, 2), 0);
        due("15 another PART", y.heap(4, 2), 1);
    }

    private static void promise16Shift() {
        FrameDesk x = seven();
        due("16 shift(0, 1)", x.shift(0, 1), 2);
        due("16 shift(0, -1)", x.shift(0, -1), 5);
        due("16 shift(0, 0)", x.shift(0, 0), 0);
        due("16 shift(0, 3)", x.shift(0, 3), 3);
        due("16 shift(0, 4)", x.shift(0, 4), NONE);
        due("16 not into another PART ahead", x.shift(0, -2), NONE);
        due("16 not into another PART behind", x.shift(4, 1), NONE);
        due("16 shift(0, 20)", x.shift(0, 20), NONE);
        due("16 shift(0, -20)", x.shift(0, -20), NONE);
        due("16 shift(0, 21)", x.shift(0, 21), OUTSIDE);
        due("16 shift(0, -21)", x.shift(0, -21), OUTSIDE);
        due("16 shift(7, 21)", x.shift(7, 21), UNKNOWN);
        due("16 shift(-1, 0)", x.shift(-1, 0), UNKNOWN);
        FrameDesk y = line(40);
        due("16 twenty behind", y.shift(10, 20), 30);
        due("16 twenty ahead", y.shift(30, -20), 10);
    }

    private static void promise17Best() {
        due("17 no rows", new FrameDesk().best(0), NONE);
        FrameDesk x = seven();
        // Frames: 0 {7 7}, 1 {M}, 2 {7 7 -7}, 3 {7 7 -7 M 5}, 4 {M 9}, 5 {7}, 6 {7 7 -7 M}.
        int[] wanted = {3, 3, 0, 4, 4, 0, 4, 3, 4};
        for (int what = 0; what < 9; what++) {
            due("17 best(" + what + ")", x.best(what), wanted[what]);
        }
        due("17 best(-1)", x.best(-1), OUTSIDE);
        due("17 best(9)", x.best(9), OUTSIDE);
        due("17 wrong without rows", new FrameDesk().best(9), OUTSIDE);
        x.frame(0, 20, 20, 0);
        due("17 all MISSING: the least number", x.best(4), 0);
        FrameDesk y = new FrameDesk();
        y.put(0, 0, M);
        y.put(1, 0, -999);
        due("17 MISSING is less than all", y.best(3), 1);
        due("17 the first ROW's", y.best(5), 1);
        due("17 a SUM of none is 0", y.best(2), 0);
        FrameDesk low = new FrameDesk();
        for (int i = 0; i < 40; i++) {
            low.put(0, i, -999);
        }
        due("17 the least SUMS", low.best(2), 0);
        low.frame(0, OPEN, OPEN, 0);
        due("17 all -39960", low.best(2), 0);
    }

    private static void promise18Would() {
        FrameDesk x = seven();
        due("18 none", new FrameDesk().would(5, 99), 0);
        due("18 would(0, -4)", x.would(0, -4), 0);
        due("18 would(0, -3): behind like ones", x.would(0, -3), 2);
        due("18 would(0, M)", x.would(0, M), 2);
        due("18 would(1, 0)", x.would(1, 0), 2);
        due("18 would(2, 0)", x.would(2, 0), 2);
        due("18 would(2, 4)", x.would(2, 4), 5);
        due("18 would(2, 99)", x.would(2, 99), 6);
        due("18 would(2, M)", x.would(2, M), 7);
        due("18 would(5, -99)", x.would(5, -99), 7);
        x.ahead(true);
        due("18 ahead would(2, M)", x.would(2, M), 3);
        due("18 ahead would(2, -99)", x.would(2, -99), 3);
        due("18 ahead would(0, M)", x.would(0, M), 0);
        due("18 would(6, 0)", x.would(6, 0), OUTSIDE);
        due("18 would(-1, 0)", x.would(-1, 0), OUTSIDE);
        due("18 would(0, 100)", x.would(0, 100), OUTSIDE);
        due("18 would(0, -100)", x.would(0, -100), OUTSIDE);
        due("18 nothing is put", x.told(0), 7);
        due("18 where it stands when put", x.row(x.put(2, 4, 0), 7), 6);
        due("18 also where there is no room", line(40).would(0, 5), 6);
    }

    private static void promise19Write() {
        FrameDesk x = seven();
        due("19 write(7, 0, 0)", x.write(7, 0, 0), UNKNOWN);
        due("19 write(-1, 9, 0)", x.write(-1, 9, 0), UNKNOWN);
        due("19 write(0, 9, 0)", x.write(0, 9, 0), OUTSIDE);
        due("19 write(0, -1, 0)", x.write(0, -1, 0), OUTSIDE);
        due("19 refused ones are no entries", x.told(9), 0);
        due("19 a right one", x.write(0, 2, 14), 1);
        due("19 WRONG", x.told(10), NONE);
        due("19 MISSING is an answer", x.write(1, 3, M), 2);
        due("19 WRONG", x.told(10), NONE);
        due("19 for the last row", x.write(6, 0, 4), 3);
        due("19 WRONG", x.told(10), NONE);
        x.take(6);
        due("19 a ROW that is no more", x.told(10), 2);
        x.undo(1);
        due("19 it is there again", x.told(10), NONE);
        x.change(0, 4, 8);
        due("19 the first that is otherwise", x.told(10), 0);
        x.undo(1);
        due("19 v any, LOWEST", x.write(0, 0, LOWEST), 4);
        due("19 WRONG", x.told(10), 3);
        due("19 v any, HIGHEST", x.write(0, 0, HIGHEST), 5);
        due("19 WRONG stays the first", x.told(10), 3);
        for (int i = 5; i < 20; i++) {
            due("19 how many", x.write(0, 0, 2), i + 1);
        }
        due("19 the 21st", x.write(0, 0, 2), FULL);
        due("19 OUTSIDE is ahead of FULL", x.write(0, 9, 2), OUTSIDE);
        due("19 UNKNOWN is ahead of FULL", x.write(7, 0, 2), UNKNOWN);
        due("19 entries", x.told(9), 20);
        due("19 no deeds", x.told(11), 7);
    }

    private static void promise20Tear() {
        FrameDesk x = seven();
        due("20 none", x.tear(), 0);
        x.write(0, 0, 9);
        x.write(1, 0, 9);
        due("20 two", x.tear(), 2);
        due("20 entries", x.told(9), 0);
        due("20 WRONG", x.told(10), NONE);
        due("20 none again", x.tear(), 0);
        due("20 a new BOOK", x.write(0, 0, 2), 1);
        due("20 WRONG of it", x.told(10), NONE);
        for (int i = 1; i < 20; i++) {
            x.write(0, 0, 2);
        }
        due("20 twenty", x.tear(), 20);
        due("20 no deed", x.told(11), 7);
    }

    private static void promise21Seed() {
        FrameDesk x = new FrameDesk();
        due("21 seed(5)", x.seed(5), 0);
        due("21 seed(-1)", x.seed(-1), OUTSIDE);
        due("21 seed(LOWEST)", x.seed(LOWEST), OUTSIDE);
        due("21 refused changes nothing", x.seed(HIGHEST), 5);
        due("21 the greatest", x.seed(0), HIGHEST);
        due("21 0", x.seed(1), 0);
        due("21 no deed", x.told(11), 0);
        x.drift(1);
        // 1 becomes 1103527590, 377401575, 662824084.
        due("21 after three DRAWS", x.seed(0), 662824084);
    }

    private static void promise22Keep() {
        FrameDesk x = seven();
        due("22 keep(2)", x.keep(2), UNKNOWN);
        due("22 keep(-1)", x.keep(-1), UNKNOWN);
        due("22 keep(LOWEST)", x.keep(LOWEST), UNKNOWN);
        due("22 refused changes nothing", x.told(11), 7);
        due("22 keep(0)", x.keep(0), 1);
        due("22 nothing can be undone", x.told(11), 0);
        due("22 undo(1)", x.undo(1), NOT);
        due("22 rows stay", x.told(0), 7);
        due("22 IMAGE 1 was not kept", x.goBack(1), NOT);
        due("22 keep(1)", x.keep(1), 1);
        x.take(0);
        due("22 since the IMAGE", x.told(11), 1);
        due("22 anew", x.keep(0), 1);
        x.take(0);
        x.goBack(0);
        due("22 the newer one", x.told(0), 6);
        x.goBack(1);
        due("22 the older one", x.told(0), 7);
    }

    private static void promise23GoBack() {
        FrameDesk x = seven();
        due("23 goBack(2)", x.goBack(2), UNKNOWN);
        due("23 goBack(-1)", x.goBack(-1), UNKNOWN);
        due("23 goBack(0)", x.goBack(0), NOT);
        due("23 refused changes nothing", x.told(11), 7);
        x.ahead(true);
        x.frame(2, -5, OPEN, 1);
        x.seed(17);
        x.write(0, 0, 3);
        x.keep(1);
        x.ahead(false);
        x.frame(1, 3, 4, 2);
        x.seed(18);
        x.drift(3);
        x.take(0);
        x.change(0, 7, 7);
        x.write(0, 1, 1);
        due("23 goBack(0), the other", x.goBack(0), NOT);
        due("23 goBack(1)", x.goBack(1), 1);
        int[] wanted = {7, 2, 5, 2, 95, 199, 1, 1};
        for (int what = 0; what < wanted.length; what++) {
            due("23 told(" + what + ")", x.told(what), wanted[what]);
        }
        stands("23 as it was", x, 1, 4, 3, 5, 0, 2, 6);
        due("23 KEY", x.row(0, 1), 4);
        due("23 THE SEED, too", x.seed(17), 17);
        due("23 nothing can be undone", x.told(11), 0);
        due("23 undo(1)", x.undo(1), NOT);
        due("23 the book stays", x.told(9), 2);
        x.take(3);
        due("23 the IMAGE stays", x.goBack(1), 1);
        due("23 rows", x.told(0), 7);
        x.put(0, 0, 0);
        due("23 undone since it", x.undo(1), 7);
        due("23 no further", x.undo(1), NOT);
    }

    public static void main(String[] args) {
        face();
        rowsThatWent();
        promise1New();
        promise2Told();
        promise3Row();
        changedByARowThatGoes();
        promise4Standing();
        promise5Put();
        promise6Take();
        promise7Change();
        promise8Frame();
        promise9Ahead();
        promise10Drift();
        promise11Undo();
        promise12Of();
        promise13Rows();
        promise14InFrame();
        promise15Heap();
        promise16Shift();
        promise17Best();
        promise18Would();
        promise19Write();
        promise20Tear();
        promise21Seed();
        promise22Keep();
        promise23GoBack();
        System.out.println(asked + " answers asked, " + wrong + " not as due");
        if (wrong != 0) {
            System.exit(1);
        }
    }
}
