import java.util.ArrayList;
import java.util.Comparator;
import java.util.HashSet;
import java.util.List;
import java.util.Set;
import java.util.TreeSet;

/**
 * The document once more, as plainly as Java's library allows and without a thought of speed:
 * states are never changed but replaced, so that what is undone is a list of old ones.
 */
final class Model {
    static final int NONE = -1;
    static final int MISSING = 1000000;
    static final int OPEN = 99;
    static final int UNKNOWN = -1000000001;
    static final int OUTSIDE = -1000000002;
    static final int NOT = -1000000003;
    static final int FULL = -1000000004;

    record Row(int part, int key, int worth) { }

    record State(List<Row> rows, int mode, int begin, int end, int less, boolean ahead) { }

    record Entry(int r, int what, int v) { }

    private State now = new State(List.of(), 0, OPEN, 0, 0, false);
    private List<State> past = new ArrayList<>();
    private final List<Entry> book = new ArrayList<>();
    private final State[] images = new State[2];
    private final long[] imageSeeds = new long[2];
    private long seed = 0;

    private static boolean known(State s, int r) {
        return 0 <= r && r < s.rows.size();
    }

    private static boolean among(int v, int a, int b) {
        return a <= v && v <= b;
    }

    private static boolean keyFits(int key) {
        return among(key, -99, 99) || key == MISSING;
    }

    private static boolean worthFits(int worth) {
        return among(worth, -999, 999) || worth == MISSING;
    }

    private static boolean boundFits(int bound) {
        return among(bound, -20, 20) || bound == OPEN;
    }

    private void deed(State next) {
        past.add(now);
        if (past.size() > 20) {
            past.remove(0);
        }
        now = next;
    }

    private static State withRows(State s, List<Row> rows) {
        return new State(List.copyOf(rows), s.mode, s.begin, s.end, s.less, s.ahead);
    }

    private static List<Integer> all(State s) {
        List<Integer> order = new ArrayList<>();
        for (int r = 0; r < s.rows.size(); r++) {
            order.add(r);
        }
        Comparator<Integer> byPart = Comparator.comparing(r -> s.rows.get(r).part);
        Comparator<Integer> byMissing = Comparator.comparing(r -> (s.rows.get(r).key == MISSING) != s.ahead);
        Comparator<Integer> byKey = Comparator.comparing(r -> s.rows.get(r).key);
        order.sort(byPart.thenComparing(byMissing).thenComparing(byKey).thenComparing(Comparator.naturalOrder()));
        return order;
    }

    private static List<Integer> part(State s, int r) {
        List<Integer> order = all(s);
        order.removeIf(o -> s.rows.get(o).part != s.rows.get(r).part);
        return order;
    }

    private static List<Integer> peers(State s, int r) {
        List<Integer> order = part(s, r);
        order.removeIf(o -> s.rows.get(o).key != s.rows.get(r).key);
        return order;
    }

    private static List<Integer> groups(State s, int r) {
        List<Integer> keys = new ArrayList<>();
        for (int o : part(s, r)) {
            if (!keys.contains(s.rows.get(o).key)) {
                keys.add(s.rows.get(o).key);
            }
        }
        return keys;
    }

    private static List<Integer> frameOf(State s, int r) {
        List<Integer> in = switch (s.mode) {
            case 0 -> byPlaces(s, r);
            case 1 -> byKeys(s, r);
            default -> byGroups(s, r);
        };
        if (s.less == 1) {
            in.remove((Integer) r);
        } else if (s.less == 2) {
            in.removeAll(peers(s, r));
        } else if (s.less == 3) {
            List<Integer> others = peers(s, r);
            others.remove((Integer) r);
            in.removeAll(others);
        }
        return in;
    }

    private static List<Integer> byPlaces(State s, int r) {
        List<Integer> part = part(s, r);
        int from = s.begin == OPEN ? 0 : Math.max(0, part.indexOf(r) + s.begin);
        int to = s.end == OPEN ? part.size() - 1 : Math.min(part.size() - 1, part.indexOf(r) + s.end);
        List<Integer> in = new ArrayList<>();
        for (int i = from; i <= to; i++) {
            in.add(part.get(i));
        }
        return in;
    }

    private static List<Integer> byGroups(State s, int r) {
        List<Integer> keys = groups(s, r);
        int own = keys.indexOf(s.rows.get(r).key);
        List<Integer> in = new ArrayList<>();
        for (int o : part(s, r)) {
            int group = keys.indexOf(s.rows.get(o).key);
            if ((s.begin == OPEN || group >= own + s.begin) && (s.end == OPEN || group <= own + s.end)) {
                in.add(o);
            }
        }
        return in;
    }

    private static List<Integer> byKeys(State s, int r) {
        List<Integer> part = part(s, r);
        int own = s.rows.get(r).key;
        List<Integer> in = new ArrayList<>();
        if (own == MISSING) {
            List<Integer> peers = peers(s, r);
            int from = s.begin == OPEN ? 0 : part.indexOf(peers.get(0));
            int to = s.end == OPEN ? part.size() : part.indexOf(peers.get(peers.size() - 1)) + 1;
            in.addAll(part.subList(from, to));
            return in;
        }
        for (int o : part) {
            int key = s.rows.get(o).key;
            boolean fits;
            if (key == MISSING) {
                fits = s.ahead ? s.begin == OPEN : s.end == OPEN;
            } else {
                fits = (s.begin == OPEN || key >= own + s.begin) && (s.end == OPEN || key <= own + s.end);
            }
            if (fits) {
                in.add(o);
            }
        }
        return in;
    }

    private static int ofFrame(State s, int r, int what) {
        List<Integer> frame = frameOf(s, r);
        List<Integer> worths = new ArrayList<>();
        for (int o : frame) {
            if (s.rows.get(o).worth != MISSING) {
                worths.add(s.rows.get(o).worth);
            }
        }
        worths.sort(Comparator.naturalOrder());
        switch (what) {
            case 0: return frame.size();
            case 1: return worths.size();
            case 2: return worths.stream().mapToInt(w -> w).sum();
            case 3: return worths.isEmpty() ? MISSING : worths.get(0);
            case 4: return worths.isEmpty() ? MISSING : worths.get(worths.size() - 1);
            case 5: return frame.isEmpty() ? MISSING : s.rows.get(frame.get(0)).worth;
            case 6: return frame.isEmpty() ? MISSING : s.rows.get(frame.get(frame.size() - 1)).worth;
            case 7: return new TreeSet<>(worths).size();
            default: return worths.isEmpty() ? MISSING : worths.get((worths.size() - 1) / 2);
        }
    }

    private static long setOf(State s, int r) {
        long bits = 0;
        for (int o : frameOf(s, r)) {
            bits |= 1L << o;
        }
        return bits;
    }

    int told(int what) {
        Set<Integer> parts = new HashSet<>();
        Set<List<Integer>> groups = new HashSet<>();
        for (Row row : now.rows) {
            parts.add(row.part);
            groups.add(List.of(row.part, row.key));
        }
        switch (what) {
            case 0: return now.rows.size();
            case 1: return parts.size();
            case 2: return groups.size();
            case 3: return now.mode;
            case 4: return now.begin + 100;
            case 5: return now.end + 100;
            case 6: return now.less;
            case 7: return now.ahead ? 1 : 0;
            case 8: return alike();
            case 9: return book.size();
            case 10: return firstWrong();
            case 11: return past.size();
            default: return OUTSIDE;
        }
    }

    private int alike() {
        List<Long> sets = new ArrayList<>();
        for (int r = 0; r < now.rows.size(); r++) {
            sets.add(setOf(now, r));
        }
        int pairs = 0;
        for (int a = 0; a < sets.size(); a++) {
            for (int b = a + 1; b < sets.size(); b++) {
                if (sets.get(a).equals(sets.get(b))) {
                    pairs++;
                }
            }
        }
        return pairs;
    }

    private int firstWrong() {
        for (Entry e : book) {
            if (!known(now, e.r) || ofFrame(now, e.r, e.what) != e.v) {
                return book.indexOf(e);
            }
        }
        return NONE;
    }

    int row(int r, int what) {
        if (!known(now, r)) {
            return UNKNOWN;
        }
        Row row = now.rows.get(r);
        List<Integer> part = part(now, r);
        List<Integer> peers = peers(now, r);
        switch (what) {
            case 0: return row.part;
            case 1: return row.key;
            case 2: return row.worth;
            case 3: return part.indexOf(r);
            case 4: return 1 + part.indexOf(peers.get(0));
            case 5: return 1 + groups(now, r).indexOf(row.key);
            case 6: return peers.size();
            case 7: return all(now).indexOf(r);
            case 8: return changed(r);
            default: return OUTSIDE;
        }
    }

    private int changed(int gone) {
        List<Row> left = new ArrayList<>(now.rows);
        left.remove(gone);
        State then = withRows(now, left);
        int count = 0;
        for (int r = 0; r < now.rows.size(); r++) {
            if (r != gone && ofFrame(now, r, 2) != ofFrame(then, r > gone ? r - 1 : r, 2)) {
                count++;
            }
        }
        return count;
    }

    int standing(int k) {
        return known(now, k) ? all(now).get(k) : NONE;
    }

    int put(int part, int key, int worth) {
        if (!among(part, 0, 5) || !keyFits(key) || !worthFits(worth)) {
            return OUTSIDE;
        }
        if (now.rows.size() == 40) {
            return FULL;
        }
        List<Row> rows = new ArrayList<>(now.rows);
        rows.add(new Row(part, key, worth));
        deed(withRows(now, rows));
        return rows.size() - 1;
    }

    int take(int r) {
        if (!known(now, r)) {
            return UNKNOWN;
        }
        List<Row> rows = new ArrayList<>(now.rows);
        rows.remove(r);
        deed(withRows(now, rows));
        return rows.size();
    }

    int change(int r, int key, int worth) {
        if (!known(now, r)) {
            return UNKNOWN;
        }
        if (!keyFits(key) || !worthFits(worth)) {
            return OUTSIDE;
        }
        int before = all(now).indexOf(r);
        List<Row> rows = new ArrayList<>(now.rows);
        rows.set(r, new Row(rows.get(r).part, key, worth));
        deed(withRows(now, rows));
        return all(now).indexOf(r) == before ? 0 : 1;
    }

    int frame(int mode, int begin, int end, int less) {
        if (!among(mode, 0, 2) || !boundFits(begin) || !boundFits(end) || !among(less, 0, 3)) {
            return OUTSIDE;
        }
        deed(new State(now.rows, mode, begin, end, less, now.ahead));
        int count = 0;
        for (int r = 0; r < now.rows.size(); r++) {
            count += frameOf(now, r).size();
        }
        return count;
    }

    int ahead(boolean is) {
        List<Integer> before = all(now);
        deed(new State(now.rows, now.mode, now.begin, now.end, now.less, is));
        List<Integer> after = all(now);
        int count = 0;
        for (int i = 0; i < before.size(); i++) {
            if (!before.get(i).equals(after.get(i))) {
                count++;
            }
        }
        return count;
    }

    private int draw(int n) {
        seed = (seed * 1103515245L + 12345L) % (1L << 31);
        return (int) (seed / 65536 % n);
    }

    int drift(int n) {
        if (!among(n, 1, 20)) {
            return OUTSIDE;
        }
        for (int i = 0; i < n && now.rows.size() < 40; i++) {
            int part = draw(3);
            int key = draw(12);
            int worth = draw(21);
            put(part, key == 11 ? MISSING : key, worth == 20 ? MISSING : worth - 10);
        }
        return now.rows.size();
    }

    int undo(int n) {
        if (!among(n, 1, 20)) {
            return OUTSIDE;
        }
        if (n > past.size()) {
            return NOT;
        }
        for (int i = 0; i < n; i++) {
            now = past.remove(past.size() - 1);
        }
        return now.rows.size();
    }

    int of(int r, int what) {
        return !known(now, r) ? UNKNOWN : !among(what, 0, 8) ? OUTSIDE : ofFrame(now, r, what);
    }

    long rows(int r) {
        return known(now, r) ? setOf(now, r) : 0;
    }

    int inFrame(int r, int k) {
        if (!known(now, r)) {
            return UNKNOWN;
        }
        List<Integer> frame = frameOf(now, r);
        return among(k, 0, frame.size() - 1) ? frame.get(k) : NONE;
    }

    int heap(int r, int k) {
        if (!known(now, r)) {
            return UNKNOWN;
        }
        if (!among(k, 1, 20)) {
            return OUTSIDE;
        }
        List<Integer> part = part(now, r);
        int at = 0;
        for (int heap = 0; heap < k; heap++) {
            int size = part.size() / k + (heap < part.size() % k ? 1 : 0);
            if (part.subList(at, at + size).contains(r)) {
                return heap;
            }
            at += size;
        }
        return -7;
    }

    int shift(int r, int d) {
        if (!known(now, r)) {
            return UNKNOWN;
        }
        if (!among(d, -20, 20)) {
            return OUTSIDE;
        }
        List<Integer> part = part(now, r);
        int at = part.indexOf(r) + d;
        return among(at, 0, part.size() - 1) ? part.get(at) : NONE;
    }

    int best(int what) {
        if (!among(what, 0, 8)) {
            return OUTSIDE;
        }
        int best = NONE;
        long most = Long.MIN_VALUE;
        for (int r = 0; r < now.rows.size(); r++) {
            int value = ofFrame(now, r, what);
            long weight = value == MISSING ? Long.MIN_VALUE + 1 : value;
            if (weight > most) {
                most = weight;
                best = r;
            }
        }
        return best;
    }

    int would(int part, int key) {
        if (!among(part, 0, 5) || !keyFits(key)) {
            return OUTSIDE;
        }
        List<Row> rows = new ArrayList<>(now.rows);
        rows.add(new Row(part, key, 0));
        return all(withRows(now, rows)).indexOf(rows.size() - 1);
    }

    int write(int r, int what, int v) {
        if (!known(now, r)) {
            return UNKNOWN;
        }
        if (!among(what, 0, 8)) {
            return OUTSIDE;
        }
        if (book.size() == 20) {
            return FULL;
        }
        book.add(new Entry(r, what, v));
        return book.size();
    }

    int tear() {
        int had = book.size();
        book.clear();
        return had;
    }

    int seed(int v) {
        if (v < 0) {
            return OUTSIDE;
        }
        int was = (int) seed;
        seed = v;
        return was;
    }

    int keep(int i) {
        if (!among(i, 0, 1)) {
            return UNKNOWN;
        }
        images[i] = now;
        imageSeeds[i] = seed;
        past = new ArrayList<>();
        return 1;
    }

    int goBack(int i) {
        if (!among(i, 0, 1)) {
            return UNKNOWN;
        }
        if (images[i] == null) {
            return NOT;
        }
        now = images[i];
        seed = imageSeeds[i];
        past = new ArrayList<>();
        return 1;
    }
}
