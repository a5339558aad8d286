public final class FrameDesk {
    public static final int NONE = -1, MISSING = 1000000, OPEN = 99, UNKNOWN = -1000000001, OUTSIDE = -1000000002, NOT = -1000000003, FULL = -1000000004;

    private static final int MOST_ROWS = 40;
    private static final int MOST_ENTRIES = 20;
    private static final int MOST_UNDONE = 20;
    private static final int MOST_TIMES = 20;
    private static final int MOST_HEAPS = 20;
    private static final int IMAGES = 2;
    private static final int LAST_PART = 5;
    private static final int LAST_KEY = 99;
    private static final int LAST_WORTH = 999;
    private static final int LAST_STEP = 20;
    private static final int LAST_OF_FRAME = 8;
    // Beyond every KEY, PLACE, GROUP and WORTH, MISSING too.
    private static final int FAR = 2000000;

    private final Lens lens;
    private final Order order;
    private final Table table;
    // A second table to look at as if something were otherwise.
    private final Lens trialLens;
    private final Order trialOrder;
    private final Table trial;
    private final History history;
    private final Book book;
    private final Image[] images;
    private int drawn;

    public FrameDesk() {
        lens = new Lens();
        order = lens.order;
        table = order.table;
        trialLens = new Lens();
        trialOrder = trialLens.order;
        trial = trialOrder.table;
        history = new History();
        book = new Book();
        images = new Image[IMAGES];
        for (int i = 0; i < IMAGES; i++) {
            images[i] = new Image();
        }
        drawn = 0;
    }

    // ---- rows

    public int told(int what) {
        switch (what) {
            case 0: return table.count;
            case 1: return order.partsHeld();
            case 2: return order.groupsHeld();
            case 3: return table.mode;
            case 4: return table.begin + 100;
            case 5: return table.end + 100;
            case 6: return table.less;
            case 7: return table.missingAhead ? 1 : 0;
            case 8: return lens.alikePairs();
            case 9: return book.count;
            case 10: return book.firstWrong(lens);
            case 11: return history.count;
            default: return OUTSIDE;
        }
    }

    public int row(int r, int what) {
        if (!table.has(r)) {
            return UNKNOWN;
        }
        switch (what) {
            case 0: return table.part[r];
            case 1: return table.key[r];
            case 2: return table.worth[r];
            case 3: return order.place[r];
            case 4: return 1 + order.aheadOfPeers(r);
            case 5: return 1 + order.group[r];
            case 6: return order.peersOf(r);
            case 7: return order.spot[r];
            case 8: return changedWithout(r);
            default: return OUTSIDE;
        }
    }

    public int standing(int k) {
        return order.at(k);
    }

    // ---- deeds

    public int put(int part, int key, int worth) {
        if (!isPart(part) || !isKey(key) || !isWorth(worth)) {
            return OUTSIDE;
        }
        if (table.count >= MOST_ROWS) {
            return FULL;
        }
        history.remember(table);
        table.add(part, key, worth);
        order.settle();
        return table.count - 1;
    }

    public int take(int r) {
        if (!table.has(r)) {
            return UNKNOWN;
        }
        history.remember(table);
        table.drop(r);
        order.settle();
        return table.count;
    }

    public int change(int r, int key, int worth) {
        if (!table.has(r)) {
            return UNKNOWN;
        }
        if (!isKey(key) || !isWorth(worth)) {
            return OUTSIDE;
        }
        int spotBefore = order.spot[r];
        history.remember(table);
        table.key[r] = key;
        table.worth[r] = worth;
        order.settle();
        return order.spot[r] == spotBefore ? 0 : 1;
    }

    public int frame(int mode, int begin, int end, int less) {
        if (!within(mode, 0, 2) || !isBound(begin) || !isBound(end) || !within(less, 0, 3)) {
            return OUTSIDE;
        }
        history.remember(table);
        table.mode = mode;
        table.begin = begin;
        table.end = end;
        table.less = less;
        return lens.rowsOfAllFrames();
    }

    public int ahead(boolean is) {
        history.remember(table);
        trial.copy(table);
        trialOrder.settle();
        table.missingAhead = is;
        order.settle();
        return order.unlikeSpots(trialOrder);
    }

    public int drift(int n) {
        if (!within(n, 1, MOST_TIMES)) {
            return OUTSIDE;
        }
        for (int i = 0; i < n && table.count < MOST_ROWS; i++) {
            history.remember(table);
            addByDraws();
        }
        order.settle();
        return table.count;
    }

    public int undo(int n) {
        if (!within(n, 1, MOST_UNDONE)) {
            return OUTSIDE;
        }
        if (n > history.count) {
            return NOT;
        }
        history.restore(n, table);
        order.settle();
        return table.count;
    }

    // ---- asked

    public int of(int r, int what) {
        if (!table.has(r)) {
            return UNKNOWN;
        }
        if (!isOfFrame(what)) {
            return OUTSIDE;
        }
        return lens.answer(r, what);
    }

    public long rows(int r) {
        return lens.set(r);
    }

    public int inFrame(int r, int k) {
        if (!table.has(r)) {
            return UNKNOWN;
        }
        return lens.rowAt(r, k);
    }

    public int heap(int r, int k) {
        if (!table.has(r)) {
            return UNKNOWN;
        }
        if (!within(k, 1, MOST_HEAPS)) {
            return OUTSIDE;
        }
        return heapAt(order.place[r], order.sizeOfPart(r), k);
    }

    public int shift(int r, int d) {
        if (!table.has(r)) {
            return UNKNOWN;
        }
        if (!within(d, -LAST_STEP, LAST_STEP)) {
            return OUTSIDE;
        }
        int other = order.at(order.spot[r] + d);
        return other != NONE && table.part[other] == table.part[r] ? other : NONE;
    }

    public int best(int what) {
        if (!isOfFrame(what)) {
            return OUTSIDE;
        }
        int found = NONE;
        int most = -FAR;
        for (int r = 0; r < table.count; r++) {
            int value = lens.answer(r, what);
            int weight = value == MISSING ? -MISSING : value;
            if (weight > most) {
                most = weight;
                found = r;
            }
        }
        return found;
    }

    public int would(int part, int key) {
        if (!isPart(part) || !isKey(key)) {
            return OUTSIDE;
        }
        int count = 0;
        for (int r = 0; r < table.count; r++) {
            // The row put now would have the greatest number, so like ones are ahead of it.
            if (!table.isBefore(part, key, r)) {
                count++;
            }
        }
        return count;
    }

    // ---- the book

    public int write(int r, int what, int v) {
        if (!table.has(r)) {
            return UNKNOWN;
        }
        if (!isOfFrame(what)) {
            return OUTSIDE;
        }
        if (book.count >= MOST_ENTRIES) {
            return FULL;
        }
        book.append(r, what, v);
        return book.count;
    }

    public int tear() {
        int had = book.count;
        book.count = 0;
        return had;
    }

    // ---- images

    public int seed(int v) {
        if (v < 0) {
            return OUTSIDE;
        }
        int was = drawn;
        drawn = v;
        return was;
    }

    public int keep(int i) {
        if (!within(i, 0, IMAGES - 1)) {
            return UNKNOWN;
        }
        images[i].table.copy(table);
        images[i].drawn = drawn;
        images[i].isKept = true;
        history.forget();
        return 1;
    }

    public int goBack(int i) {
        if (!within(i, 0, IMAGES - 1)) {
            return UNKNOWN;
        }
        if (!images[i].isKept) {
            return NOT;
        }
        table.copy(images[i].table);
        drawn = images[i].drawn;
        history.forget();
        order.settle();
        return 1;
    }

    // ---- helpers

    private static boolean within(int value, int least, int greatest) {
        return value >= least && value <= greatest;
    }

    private static boolean isPart(int part) {
        return within(part, 0, LAST_PART);
    }

    private static boolean isKey(int key) {
        return key == MISSING || within(key, -LAST_KEY, LAST_KEY);
    }

    private static boolean isWorth(int worth) {
        return worth == MISSING || within(worth, -LAST_WORTH, LAST_WORTH);
    }

    private static boolean isBound(int bound) {
        return bound == OPEN || within(bound, -LAST_STEP, LAST_STEP);
    }

    private static boolean isOfFrame(int what) {
        return within(what, 0, LAST_OF_FRAME);
    }

    private static int heapAt(int place, int size, int k) {
        if (k < 1) {
            return NONE;
        }
        int small = size / k;
        int bigHeaps = size % k;
        int inBigHeaps = bigHeaps * (small + 1);
        // With fewer rows than heaps each row is in a big heap: small is 0 only there.
        if (place < inBigHeaps || small < 1) {
            return place / (small + 1);
        }
        return bigHeaps + (place - inBigHeaps) / small;
    }

    private int changedWithout(int gone) {
        trial.copy(table);
        trial.drop(gone);
        trialOrder.settle();
        int changed = 0;
        for (int r = 0; r < table.count; r++) {
            int numberThen = r < gone ? r : r - 1;
            if (r != gone && lens.sum(r) != trialLens.sum(numberThen)) {
                changed++;
            }
        }
        return changed;
    }

    private void addByDraws() {
        int part = draw(3);
        int key = draw(12);
        int worth = draw(21);
        table.add(part, key == 11 ? MISSING : key, worth == 20 ? MISSING : worth - 10);
    }

    private int draw(int n) {
        drawn = (int) ((drawn * 1103515245L + 12345L) & 0x7fffffffL);
        return n < 1 ? 0 : drawn / 65536 % n;
    }

    /** All that a deed may change, and so all that is undone: ROWS, THE FRAME, where MISSING ones STAND. */
    private static final class Table {
        final int[] part = new int[MOST_ROWS];
        final int[] key = new int[MOST_ROWS];
        final int[] worth = new int[MOST_ROWS];
        int count = 0;
        int mode = 0;
        int begin = OPEN;
        int end = 0;
        int less = 0;
        boolean missingAhead = false;

        boolean has(int r) {
            return r >= 0 && r < count;
        }

        void copy(Table other) {
            System.arraycopy(other.part, 0, part, 0, MOST_ROWS);
            System.arraycopy(other.key, 0, key, 0, MOST_ROWS);
            System.arraycopy(other.worth, 0, worth, 0, MOST_ROWS);
            count = other.count;
            mode = other.mode;
            begin = other.begin;
            end = other.end;
            less = other.less;
            missingAhead = other.missingAhead;
        }

        void add(int newPart, int newKey, int newWorth) {
            if (count >= MOST_ROWS) {
                return;
            }
            part[count] = newPart;
            key[count] = newKey;
            worth[count] = newWorth;
            count++;
        }

        void drop(int r) {
            if (!has(r)) {
                return;
            }
            for (int i = r; i < count - 1; i++) {
                part[i] = part[i + 1];
                key[i] = key[i + 1];
                worth[i] = worth[i + 1];
            }
            count--;
        }

        /** A KEY as a number to order by: MISSING as a KEY is behind all others already. */
        int rankOf(int someKey) {
            return someKey == MISSING && missingAhead ? -MISSING : someKey;
        }

        /** Whether a PART and KEY alone, without numbers, set a row ahead of row r. */
        boolean isBefore(int somePart, int someKey, int r) {
            if (somePart != part[r]) {
                return somePart < part[r];
            }
            return rankOf(someKey) < rankOf(key[r]);
        }

        boolean arePeers(int a, int b) {
            return part[a] == part[b] && key[a] == key[b];
        }
    }

    /** The rows of its table as they STAND; settle() must follow whatever changes their order. */
    private static final class Order {
        final Table table = new Table();
        final int[] standing = new int[MOST_ROWS];
        final int[] spot = new int[MOST_ROWS];
        final int[] place = new int[MOST_ROWS];
        final int[] group = new int[MOST_ROWS];

        void settle() {
            sort();
            for (int i = 0; i < table.count; i++) {
                number(i);
            }
        }

        private void sort() {
            for (int r = 0; r < table.count; r++) {
                int i = r;
                // Only truly unlike rows are passed: like ones stay by number.
                while (i > 0 && table.isBefore(table.part[r], table.key[r], standing[i - 1])) {
                    standing[i] = standing[i - 1];
                    i--;
                }
                standing[i] = r;
            }
        }

        private void number(int i) {
            int r = standing[i];
            spot[r] = i;
            place[r] = 0;
            group[r] = 0;
            if (i > 0 && table.part[standing[i - 1]] == table.part[r]) {
                int previous = standing[i - 1];
                place[r] = place[previous] + 1;
                group[r] = table.arePeers(previous, r) ? group[previous] : group[previous] + 1;
            }
        }

        int at(int k) {
            return k >= 0 && k < table.count ? standing[k] : NONE;
        }

        int partsHeld() {
            int parts = 0;
            for (int r = 0; r < table.count; r++) {
                if (place[r] == 0) {
                    parts++;
                }
            }
            return parts;
        }

        int groupsHeld() {
            int groups = 0;
            for (int r = 0; r < table.count; r++) {
                if (aheadOfPeers(r) == place[r]) {
                    groups++;
                }
            }
            return groups;
        }

        int aheadOfPeers(int r) {
            int count = 0;
            for (int i = 0; i < table.count; i++) {
                if (table.part[i] == table.part[r] && group[i] < group[r]) {
                    count++;
                }
            }
            return count;
        }

        int peersOf(int r) {
            int count = 0;
            for (int i = 0; i < table.count; i++) {
                if (table.arePeers(i, r)) {
                    count++;
                }
            }
            return count;
        }

        int sizeOfPart(int r) {
            int count = 0;
            for (int i = 0; i < table.count; i++) {
                if (table.part[i] == table.part[r]) {
                    count++;
                }
            }
            return count;
        }

        int unlikeSpots(Order other) {
            int count = 0;
            for (int r = 0; r < table.count; r++) {
                if (spot[r] != other.spot[r]) {
                    count++;
                }
            }
            return count;
        }

        /** What the table's MODE counts by: PLACES, KEYS or GROUPS. */
        int measure(int r) {
            switch (table.mode) {
                case 0: return place[r];
                case 1: return table.rankOf(table.key[r]);
                default: return group[r];
            }
        }
    }

    /** Sees the FRAMES of its rows, one at a time. */
    private static final class Lens {
        final Order order = new Order();
        final Table table = order.table;
        final int[] seen = new int[MOST_ROWS];
        final int[] worths = new int[MOST_ROWS];
        final long[] sets = new long[MOST_ROWS];
        int seenCount = 0;
        int worthCount = 0;

        private void look(int r) {
            seenCount = 0;
            worthCount = 0;
            if (!table.has(r)) {
                return;
            }
            int low = bound(r, table.begin, -FAR);
            int high = bound(r, table.end, FAR);
            for (int i = order.spot[r] - order.place[r]; i < table.count; i++) {
                int other = order.at(i);
                if (other == NONE || table.part[other] != table.part[r]) {
                    break;
                }
                int measure = order.measure(other);
                if (measure >= low && measure <= high && !isLess(r, other)) {
                    see(other);
                }
            }
        }

        private int bound(int r, int step, int open) {
            if (step == OPEN) {
                return open;
            }
            int own = order.measure(r);
            // A MISSING KEY has nothing to add to, and is like its PEERS alone.
            return table.mode == 1 && table.key[r] == MISSING ? own : own + step;
        }

        private boolean isLess(int r, int other) {
            switch (table.less) {
                case 1: return other == r;
                case 2: return table.arePeers(r, other);
                case 3: return other != r && table.arePeers(r, other);
                default: return false;
            }
        }

        private void see(int other) {
            if (seenCount >= MOST_ROWS) {
                return;
            }
            seen[seenCount] = other;
            seenCount++;
            if (table.worth[other] != MISSING) {
                worths[worthCount] = table.worth[other];
                worthCount++;
            }
        }

        long set(int r) {
            look(r);
            long bits = 0L;
            for (int i = 0; i < seenCount; i++) {
                bits |= 1L << seen[i];
            }
            return bits;
        }

        int rowAt(int r, int k) {
            look(r);
            return k >= 0 && k < seenCount ? seen[k] : NONE;
        }

        int sum(int r) {
            look(r);
            return sumSeen();
        }

        int rowsOfAllFrames() {
            int count = 0;
            for (int r = 0; r < table.count; r++) {
                look(r);
                count += seenCount;
            }
            return count;
        }

        int alikePairs() {
            int pairs = 0;
            for (int r = 0; r < table.count; r++) {
                sets[r] = set(r);
                for (int other = 0; other < r; other++) {
                    if (sets[other] == sets[r]) {
                        pairs++;
                    }
                }
            }
            return pairs;
        }

        int answer(int r, int what) {
            look(r);
            switch (what) {
                case 0: return seenCount;
                case 1: return worthCount;
                case 2: return sumSeen();
                case 5: return worthOfSeen(0);
                case 6: return worthOfSeen(seenCount - 1);
                default: return answerInOrder(what);
            }
        }

        private int answerInOrder(int what) {
            sortWorths();
            switch (what) {
                case 3: return worthAt(0);
                case 4: return worthAt(worthCount - 1);
                case 7: return unlikeWorths();
                default: return worthAt((worthCount - 1) / 2);
            }
        }

        private int sumSeen() {
            int sum = 0;
            for (int i = 0; i < worthCount; i++) {
                sum += worths[i];
            }
            return sum;
        }

        private int worthOfSeen(int k) {
            return k >= 0 && k < seenCount ? table.worth[seen[k]] : MISSING;
        }

        private int worthAt(int k) {
            return k >= 0 && k < worthCount ? worths[k] : MISSING;
        }

        private int unlikeWorths() {
            int count = 0;
            for (int i = 0; i < worthCount; i++) {
                if (i == 0 || worths[i] != worths[i - 1]) {
                    count++;
                }
            }
            return count;
        }

        private void sortWorths() {
            for (int i = 1; i < worthCount; i++) {
                int worth = worths[i];
                int k = i;
                while (k > 0 && worths[k - 1] > worth) {
                    worths[k] = worths[k - 1];
                    k--;
                }
                worths[k] = worth;
            }
        }
    }

    /** The tables as they were ahead of the latest deeds, in a ring. */
    private static final class History {
        final Table[] tables = new Table[MOST_UNDONE];
        int next = 0;
        int count = 0;

        History() {
            for (int i = 0; i < MOST_UNDONE; i++) {
                tables[i] = new Table();
            }
        }

        void remember(Table table) {
            tables[next].copy(table);
            next = (next + 1) % MOST_UNDONE;
            count = Math.min(count + 1, MOST_UNDONE);
        }

        void restore(int n, Table table) {
            if (n < 1 || n > count) {
                return;
            }
            next = (next + MOST_UNDONE - n) % MOST_UNDONE;
            count -= n;
            table.copy(tables[next]);
        }

        void forget() {
            count = 0;
        }
    }

    private static final class Book {
        final int[] row = new int[MOST_ENTRIES];
        final int[] kind = new int[MOST_ENTRIES];
        final int[] value = new int[MOST_ENTRIES];
        int count = 0;

        void append(int r, int what, int v) {
            if (count >= MOST_ENTRIES) {
                return;
            }
            row[count] = r;
            kind[count] = what;
            value[count] = v;
            count++;
        }

        int firstWrong(Lens lens) {
            for (int i = 0; i < count; i++) {
                if (!lens.table.has(row[i]) || lens.answer(row[i], kind[i]) != value[i]) {
                    return i;
                }
            }
            return NONE;
        }
    }

    private static final class Image {
        final Table table = new Table();
        int drawn = 0;
        boolean isKept = false;
    }
}
