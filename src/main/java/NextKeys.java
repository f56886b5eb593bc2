/**
 * Sets of numbers below a power of two, and which number is the next one in them.
 *
 * The document says what each call answers; words in capitals are its words. A SET is held as words of
 * bits alone: a NODE of five bits or fewer fits into one int, and the CLUSTERS and the SUMMARY of a ROOT
 * (ten bits at most) are such NODES, so the tree is told from the words and can never differ from them.
 */
public final class NextKeys {
    public static final int NONE = -1000000, BAD = -1000001, STATE = -1000002, FULL = -1000003;

    private static final int FINDING = -1000010, FAULT = -1000100;
    private static final int FOUND_NULL = 1, FOUND_PLACE = 2, FOUND_KIND = 3, FOUND_SIZE = 4, FOUND_STORE = 5;
    private static final int ROWS = 8, LANES = 3, ROW_ROOM = 40, TAPE_ROOM = 110;
    private static final int SETS = 4, LEAST_BITS = 2, MOST_BITS = 10, GREATEST_TOLD = 99;
    private static final int WORD = 32, MOST_WORDS = 32;
    private static final int ACTS = 24, TRACE_ROOM = 16, IMAGES = 2;
    private static final int FARTHEST = 9999, LONGEST_CHASE = 60, MOST_DRAWS = 200, GREATEST_SEED = 999999;
    private static final int MOST_BETWEEN = 16;
    private static final int ABOVE = 1, ROUND = 2, CLOSED = 3, BELOW = 4, DEEP = 5;

    /** The KIND that each KIND is, too: by KIND; 0 is the one that all are. */
    private static final int[] PARENT = {0, 0, 1, 1, 0, 4};

    private final Row[] rows = new Row[ROWS];
    private final Tape tape = new Tape();
    private final Shelf[] images = new Shelf[IMAGES];
    private final Acts acts = new Acts();
    private final Asks asks = new Asks();
    private Shelf shelf = null;
    private int latestFault = 0;
    private int latestFinding = 0;

    public NextKeys() {
    }

    // ---- rows

    public int row(int row, int lane, int n) {
        if (!isRow(row) || !within(lane, 0, LANES - 1) || n > ROW_ROOM) {
            return BAD;
        }
        if (n < 0) {
            return found(FOUND_SIZE);
        }
        rows[row] = new Row(lane, n);
        return fine(n);
    }

    public int set(int row, int i, int v) {
        if (!isRow(row)) {
            return BAD;
        }
        Row one = rows[row];
        if (one == null) {
            return found(FOUND_NULL);
        }
        if (!one.spans(i, 1)) {
            return found(FOUND_PLACE);
        }
        return fine(one.store(i, v));
    }

    public int copy(int a, int i, int b, int j, int n) {
        if (!isRow(a) || !isRow(b)) {
            return BAD;
        }
        Row from = rows[a];
        Row to = rows[b];
        if (from == null || to == null) {
            return found(FOUND_NULL);
        }
        if (from.lane != to.lane) {
            return found(FOUND_STORE);
        }
        if (!from.spans(i, n) || !to.spans(j, n)) {
            return found(FOUND_PLACE);
        }
        System.arraycopy(from.items, i, to.items, j, n);
        return fine(n);
    }

    public int drop(int row) {
        if (!isRow(row)) {
            return BAD;
        }
        Row one = rows[row];
        if (one == null) {
            return found(FOUND_NULL);
        }
        rows[row] = null;
        return fine(one.items.length);
    }

    // ---- what is told

    public int feed(int letter) {
        if (!within(letter, 0, 255)) {
            return BAD;
        }
        if (tape.length >= TAPE_ROOM) {
            return FULL;
        }
        return tape.append(letter);
    }

    public int shelf() {
        Shelf read = tape.readShelf();
        tape.length = 0;
        if (read == null) {
            latestFault = tape.faultFound;
            return FAULT - tape.at;
        }
        shelf = read;
        acts.forget();
        return read.held;
    }

    public int fault() {
        return latestFault;
    }

    public int undo() {
        if (acts.kept == 0) {
            return STATE;
        }
        acts.takeBack();
        return acts.kept;
    }

    // ---- what is done

    public int add(int set, int key) {
        KeySet one = setWith(set, key);
        if (one == null) {
            return BAD;
        }
        return one.holds(key) ? STATE : turned(one, key, key);
    }

    public int take(int set, int key) {
        KeySet one = setWith(set, key);
        if (one == null) {
            return BAD;
        }
        return one.holds(key) ? turned(one, key, key) : STATE;
    }

    public int flip(int set, int a, int b) {
        KeySet one = setWith(set, a);
        if (one == null || !one.isKey(b) || a > b) {
            return BAD;
        }
        return turned(one, a, b);
    }

    public int join(int how, int a, int b, int c) {
        KeySet first = setAt(a);
        KeySet second = setAt(b);
        KeySet goal = setAt(c);
        if (!within(how, 0, 3) || first == null || second == null || goal == null) {
            return BAD;
        }
        acts.keep(goal);
        goal.becomeJoined(how, first, second);
        return goal.size();
    }

    public int shift(int set, int v) {
        KeySet one = setAt(set);
        if (one == null || !within(v, -FARTHEST, FARTHEST)) {
            return BAD;
        }
        acts.keep(one);
        one.moveBy(v);
        return one.size();
    }

    public int gather(int set, int row, int i, int n) {
        KeySet one = setAt(set);
        if (one == null || !isRow(row) || !within(n, 1, ROW_ROOM)) {
            return BAD;
        }
        Row from = rows[row];
        if (from == null) {
            return found(FOUND_NULL);
        }
        if (!from.spans(i, n) || !allKeys(one, from, i, n)) {
            return found(FOUND_PLACE);
        }
        acts.keep(one);
        for (int k = i; k < i + n; k++) {
            one.put(from.items[k]);
        }
        return fine(one.size());
    }

    // ---- what it is

    public int contains(int set, int key) {
        KeySet one = setWith(set, key);
        if (one == null) {
            return BAD;
        }
        return one.holds(key) ? 1 : 0;
    }

    public int keys(int set) {
        KeySet one = setAt(set);
        return one == null ? BAD : one.size();
    }

    public int end(int set, int what) {
        KeySet one = setAt(set);
        if (one == null || !within(what, 0, 1)) {
            return BAD;
        }
        return what == 0 ? one.least() : one.greatest();
    }

    public int next(int set, int key) {
        KeySet one = setWith(set, key);
        return one == null ? BAD : one.following(key);
    }

    public int beside(int set, int key, int what) {
        KeySet one = setWith(set, key);
        if (one == null || !within(what, 0, 1)) {
            return BAD;
        }
        return what == 0 ? one.from(key + 1) : one.upTo(key - 1);
    }

    public int steps(int set, int key) {
        KeySet one = setWith(set, key);
        return one == null ? BAD : one.rootSteps(key);
    }

    public int tree(int set, int what) {
        KeySet one = setAt(set);
        if (one == null || !within(what, 0, 1)) {
            return BAD;
        }
        return what == 0 ? one.rootNodes() : one.rootDepth();
    }

    public int cluster(int set, int x, int what) {
        KeySet one = setAt(set);
        if (one == null || !one.isHigh(x) || !within(what, 0, 2)) {
            return BAD;
        }
        return Node.about(one.clusterAt(x, one.least()), one.lowBits, what);
    }

    public int summary(int set, int what) {
        KeySet one = setAt(set);
        if (one == null || !within(what, 0, 2)) {
            return BAD;
        }
        return Node.about(one.rootSummary(), one.highBits, what);
    }

    public int word(int set, int level, int i) {
        KeySet one = setAt(set);
        return one == null || !one.hasWord(level, i) ? BAD : one.wordAt(level, i);
    }

    public int bits(int set, int level, int i, int what) {
        KeySet one = setAt(set);
        if (one == null || !one.hasWord(level, i) || !within(what, 0, 2)) {
            return BAD;
        }
        int word = one.wordAt(level, i);
        if (what == 2) {
            return Integer.bitCount(word);
        }
        return what == 0 ? Node.greatestOf(word) : Node.leastOf(word);
    }

    public int share(int set, int what) {
        KeySet one = setAt(set);
        if (one == null || !within(what, 0, 2)) {
            return BAD;
        }
        int size = one.size();
        if (size == 0) {
            return 0;
        }
        if (what == 0) {
            return floatBits(size, one.top);
        }
        return what == 1 ? floatBits(one.total(), size) : one.total() / size;
    }

    public int rank(int set, int key) {
        KeySet one = setWith(set, key);
        return one == null ? BAD : one.sizeWithin(0, key - 1);
    }

    public int nth(int set, int k) {
        KeySet one = setAt(set);
        return one == null || k < 0 ? BAD : one.keyAt(k);
    }

    public int near(int set, int key) {
        KeySet one = setWith(set, key);
        return one == null ? BAD : one.nearest(key);
    }

    public int tell(int set, int key, int row, int i) {
        KeySet one = setWith(set, key);
        if (one == null || !isRow(row)) {
            return BAD;
        }
        Row to = rows[row];
        if (to == null) {
            return found(FOUND_NULL);
        }
        if (!to.spans(i, 0)) {
            return found(FOUND_PLACE);
        }
        int told = 0;
        int each = one.from(key);
        while (i + told < to.items.length && each != NONE) {
            to.store(i + told, each);
            told++;
            each = one.from(each + 1);
        }
        return fine(told);
    }

    // ---- foretold

    public int chase(int a, int b, int key, int n) {
        KeySet first = setWith(a, key);
        KeySet second = setAt(b);
        if (first == null || second == null || !within(n, 0, LONGEST_CHASE)) {
            return BAD;
        }
        int at = key;
        for (int i = 0; i < n && at != NONE; i++) {
            at = i % 2 == 0 ? first.following(at) : second.following(at);
        }
        return at;
    }

    public int meet(int key) {
        return shelf == null || !shelf.isKey(key) ? BAD : shelf.commonFrom(key);
    }

    public int cover(int a, int b, int what) {
        if (shelf == null || !shelf.isKey(a) || !shelf.isKey(b) || a > b || !within(what, 0, 1)) {
            return BAD;
        }
        int which = shelf.fewestOver(a, b);
        if (which == 0) {
            return NONE;
        }
        return what == 0 ? Integer.bitCount(which) : which;
    }

    public int gap(int set, int what) {
        KeySet one = setAt(set);
        if (one == null || !within(what, 0, 1)) {
            return BAD;
        }
        int lesser = one.widestFrom();
        return lesser == NONE || what == 0 ? lesser : one.from(lesser + 1) - lesser;
    }

    public long likely(int set, int key, int other, int p, int what) {
        KeySet one = setWith(set, key);
        if (one == null || !one.isKey(other) || !within(p, 0, 10) || !within(what, 0, 1)) {
            return BAD;
        }
        int between = one.sizeWithin(key + 1, other - 1);
        if (!one.holds(other) || other <= key || between > MOST_BETWEEN) {
            return STATE;
        }
        long above = 10 - p;
        long below = 10;
        for (int i = 0; i < between; i++) {
            above *= p;
            below *= 10;
        }
        return (what == 0 ? above : below) / sharedFactor(above, below);
    }

    public int drawn(int n, int seed, int what) {
        if (shelf == null) {
            return STATE;
        }
        if (!within(n, 0, MOST_DRAWS) || !within(seed, 1, GREATEST_SEED) || !within(what, 0, 1)) {
            return BAD;
        }
        Shelf other = shelf.twin();
        other.draw(n, seed);
        return what == 0 ? other.sizeOfAll() : other.nodesOfAll();
    }

    public int image(int k) {
        if (!within(k, 0, IMAGES - 1)) {
            return BAD;
        }
        if (shelf == null) {
            return STATE;
        }
        images[k] = shelf.twin();
        return 1;
    }

    public int restore(int k) {
        if (!within(k, 0, IMAGES - 1)) {
            return BAD;
        }
        Shelf kept = images[k];
        if (kept == null) {
            return STATE;
        }
        shelf = kept.twin();
        acts.forget();
        return 1;
    }

    // ---- asked

    public int kind(int one) {
        KeySet asked = setAt(one);
        return asked == null ? BAD : asked.sort;
    }

    public int as(int one, int kind) {
        KeySet asked = setAt(one);
        if (asked == null || !within(kind, 0, DEEP)) {
            return BAD;
        }
        return isSuch(asked.sort, kind) ? fine(one) : found(FOUND_KIND);
    }

    public int ask(int one, int what) {
        KeySet asked = setAt(one);
        if (asked == null || !within(what, 0, 1)) {
            return BAD;
        }
        return asks.answerAnew(asked, what);
    }

    public int trace(int i) {
        return asks.leftAt(i);
    }

    public int count(int what) {
        switch (what) {
            case 0:
                return rowsThere();
            case 1:
                return shelf == null ? 0 : shelf.held;
            case 2:
                return shelf == null ? 0 : shelf.figures;
            case 3:
                return shelf == null ? 0 : shelf.sizeOfAll();
            case 4:
                return shelf == null ? 0 : shelf.nodesOfAll();
            case 5:
                return acts.kept;
            case 6:
                return tape.length;
            default:
                return BAD;
        }
    }

    public int status() {
        return latestFinding;
    }

    // ---- what the calls share

    private static boolean within(int v, int low, int high) {
        return v >= low && v <= high;
    }

    private static boolean isRow(int row) {
        return within(row, 0, ROWS - 1);
    }

    private int found(int finding) {
        latestFinding = finding;
        return FINDING - finding;
    }

    private int fine(int answer) {
        latestFinding = 0;
        return answer;
    }

    /** The SET of that number; null, if there is none. */
    private KeySet setAt(int number) {
        return shelf == null ? null : shelf.numbered(number);
    }

    /** The SET of that number; null, if there is none, or what goes with it is no KEY. */
    private KeySet setWith(int number, int key) {
        return shelf == null || !shelf.isKey(key) ? null : shelf.numbered(number);
    }

    /** Keeps the ACT, then turns the SPAN: how many KEYS there are then. */
    private int turned(KeySet one, int a, int b) {
        acts.keep(one);
        one.turn(a, b);
        return one.size();
    }

    private static boolean allKeys(KeySet one, Row from, int i, int n) {
        for (int k = i; k < i + n; k++) {
            if (!one.isKey(from.items[k])) {
                return false;
            }
        }
        return true;
    }

    private int rowsThere() {
        int there = 0;
        for (Row each : rows) {
            if (each != null) {
                there++;
            }
        }
        return there;
    }

    private static boolean isSuch(int sort, int kind) {
        int each = sort;
        for (int i = 0; i < PARENT.length && each != kind && within(each, 1, DEEP); i++) {
            each = PARENT[each];
        }
        return each == kind;
    }

    private static long sharedFactor(long a, long b) {
        long greater = a;
        long lesser = b;
        for (int i = 0; i < 200 && lesser != 0; i++) {
            long rest = greater % lesser;
            greater = lesser;
            lesser = rest;
        }
        return Math.max(greater, 1);
    }

    /**
     * The bits of the float that is nearest to a fraction above 0, reckoned in whole numbers since no
     * function of the allowed library tells a float's bits.
     */
    private static int floatBits(int above, int below) {
        if (above <= 0 || below <= 0) {
            return 0;
        }
        long up = above;
        long down = below;
        int exponent = 127;
        for (int i = 0; i < WORD && up < down; i++) {
            up *= 2;
            exponent--;
        }
        for (int i = 0; i < WORD && up >= 2 * down; i++) {
            down *= 2;
            exponent++;
        }
        long figures = (up << 23) / down;
        long rest = (up << 23) % down;
        if (2 * rest > down || 2 * rest == down && figures % 2 == 1) {
            figures++;
        }
        // the first figure is worth one step of the exponent, and a carry beyond it another: both just add
        return (int) (((long) (exponent - 1) << 23) + figures);
    }

    /** A ROW: ITEMS of one LANE, each held as the int that it tells. */
    private static final class Row {
        final int lane;
        final int[] items;

        Row(int lane, int n) {
            this.lane = lane;
            this.items = new int[n];
        }

        /** Whether n places from i on are there; i may be the end, if n is 0. */
        boolean spans(int i, int n) {
            return i >= 0 && n >= 0 && i <= items.length - n;
        }

        int store(int i, int v) {
            int kept = lane == 0 ? (byte) v : lane == 1 ? (short) v : v;
            items[i] = kept;
            return kept;
        }
    }

    /** THE TAPE, and what reads it: TOKEN by TOKEN, until a FAULT or the end. */
    private static final class Tape {
        private static final int NUMBER = 256, END = 257, NO_TOKEN = 258;

        final int[] bytes = new int[TAPE_ROOM];
        int length = 0;
        /** The TOKEN at hand: its first byte, the place behind it, what it is (a byte, or as above), its worth. */
        int at = 0;
        int behind = 0;
        int token = END;
        int worth = 0;
        int faultFound = 0;

        int append(int letter) {
            bytes[length] = letter;
            length++;
            return length;
        }

        /** A new SHELF; null, if there is a FAULT: faultFound tells it then, at its place. */
        Shelf readShelf() {
            faultFound = 0;
            behind = 0;
            advance();
            expect('u');
            int figures = readNumber(LEAST_BITS, MOST_BITS);
            expect(';');
            if (faultFound != 0) {
                return null;
            }
            Shelf read = new Shelf(figures);
            readSet(read);
            for (int i = 0; i < TAPE_ROOM && faultFound == 0 && token != END; i++) {
                readSet(read);
            }
            return faultFound == 0 ? read : null;
        }

        private void readSet(Shelf read) {
            int sort = sortOf(token);
            if (sort == 0) {
                fail(1);
                return;
            }
            KeySet one = read.append(sort);
            if (one == null) {
                fail(3);
                return;
            }
            boolean more = true;
            for (int i = 0; i < TAPE_ROOM && more; i++) {
                advance();
                int key = readNumber(0, Math.min(one.top - 1, GREATEST_TOLD));
                if (faultFound == 0) {
                    one.put(key);
                }
                more = faultFound == 0 && token == ',';
            }
            expect(';');
        }

        /** What stands at a FAULT stays at hand, so that nothing behind it is ever looked at. */
        private void fail(int number) {
            if (faultFound == 0) {
                faultFound = number;
            }
        }

        private void expect(int wanted) {
            if (token != wanted) {
                fail(1);
            }
            advance();
        }

        private int readNumber(int low, int high) {
            if (token != NUMBER) {
                fail(1);
            } else if (!within(worth, low, high)) {
                fail(2);
            }
            int told = worth;
            advance();
            return told;
        }

        private void advance() {
            if (faultFound != 0) {
                return;
            }
            at = behind;
            if (at >= length) {
                token = END;
                return;
            }
            int first = bytes[at];
            if (isFigure(first)) {
                takeFigures();
                return;
            }
            behind = at + 1;
            token = within(first, 'a', 'z') || first == ',' || first == ';' ? first : NO_TOKEN;
        }

        private void takeFigures() {
            worth = 0;
            while (behind < length && isFigure(bytes[behind])) {
                // a longer run is no TOKEN, so its worth may be cut
                worth = worth * 10 % 1000 + bytes[behind] - '0';
                behind++;
            }
            token = behind - at <= 2 ? NUMBER : NO_TOKEN;
        }

        private static boolean isFigure(int letter) {
            return letter >= '0' && letter <= '9';
        }

        private static int sortOf(int letter) {
            switch (letter) {
                case 'a':
                    return ABOVE;
                case 'r':
                    return ROUND;
                case 'c':
                    return CLOSED;
                case 'b':
                    return BELOW;
                case 'd':
                    return DEEP;
                default:
                    return 0;
            }
        }
    }

    /** A SHELF: SETS of KEYS of as many figures. */
    private static final class Shelf {
        final int figures;
        final int top;
        final KeySet[] sets = new KeySet[SETS];
        int held = 0;

        Shelf(int figures) {
            this.figures = figures;
            this.top = 1 << figures;
        }

        /** A new EMPTY SET behind the others; null, if there is no room. */
        KeySet append(int sort) {
            if (held >= SETS) {
                return null;
            }
            KeySet one = new KeySet(held, sort, figures);
            sets[held] = one;
            held++;
            return one;
        }

        KeySet numbered(int number) {
            return within(number, 0, held - 1) ? sets[number] : null;
        }

        boolean isKey(int key) {
            return within(key, 0, top - 1);
        }

        Shelf twin() {
            Shelf other = new Shelf(figures);
            for (int i = 0; i < held; i++) {
                KeySet one = other.append(sets[i].sort);
                if (one != null) {
                    one.become(sets[i].words);
                }
            }
            return other;
        }

        int sizeOfAll() {
            int size = 0;
            for (int i = 0; i < held; i++) {
                size += sets[i].size();
            }
            return size;
        }

        int nodesOfAll() {
            int nodes = 0;
            for (int i = 0; i < held; i++) {
                nodes += sets[i].rootNodes();
            }
            return nodes;
        }

        int commonFrom(int key) {
            for (int w = key / WORD; w < KeySet.wordsFor(figures); w++) {
                int common = KeySet.spanIn(w, key, top - 1);
                for (int i = 0; i < held; i++) {
                    common &= sets[i].words[w];
                }
                if (common != 0) {
                    return w * WORD + Node.leastOf(common);
                }
            }
            return NONE;
        }

        /** The fewest SETS (bits) that cover a SPAN, of several the least; 0, if there are none. */
        int fewestOver(int a, int b) {
            int best = 0;
            for (int some = 1; some < 1 << held; some++) {
                boolean fewer = best == 0 || Integer.bitCount(some) < Integer.bitCount(best);
                if (fewer && isCovered(some, a, b)) {
                    best = some;
                }
            }
            return best;
        }

        private boolean isCovered(int some, int a, int b) {
            for (int w = a / WORD; w < KeySet.wordsFor(figures); w++) {
                int bare = KeySet.spanIn(w, a, b);
                for (int i = 0; i < held; i++) {
                    if (((some >>> i) & 1) == 1) {
                        bare &= ~sets[i].words[w];
                    }
                }
                if (bare != 0) {
                    return false;
                }
            }
            return true;
        }

        void draw(int n, int seed) {
            if (held == 0) {
                return;
            }
            long x = seed;
            for (int i = 0; i < n; i++) {
                x = x * 16807 % 2147483647;
                KeySet one = sets[(int) (x % held)];
                int key = (int) (x / 8 % top);
                one.turn(key, key);
            }
        }
    }

    /** A SET: its number, its KIND (as told by its letter) and its words of LEVEL 0, from which all else is told. */
    private static final class KeySet {
        final int number;
        final int sort;
        final int top;
        final int lowBits;
        final int highBits;
        final int[] words;

        KeySet(int number, int sort, int figures) {
            this.number = number;
            this.sort = sort;
            this.top = 1 << figures;
            this.lowBits = Node.lowOf(figures);
            this.highBits = Node.highOf(figures);
            this.words = new int[wordsFor(figures)];
        }

        static int wordsFor(int figures) {
            return figures <= 5 ? 1 : 1 << (figures - 5);
        }

        /** The bits of word w that stand for KEYS from a to b; 0, if there are none. */
        static int spanIn(int w, int a, int b) {
            int low = Math.max(a - w * WORD, 0);
            int high = Math.min(b - w * WORD, WORD - 1);
            return low > high ? 0 : (-1 << low) & (-1 >>> (WORD - 1 - high));
        }

        boolean isKey(int key) {
            return within(key, 0, top - 1);
        }

        boolean holds(int key) {
            return (words[key / WORD] >>> (key % WORD) & 1) == 1;
        }

        void put(int key) {
            words[key / WORD] |= 1 << (key % WORD);
        }

        void turn(int a, int b) {
            for (int w = a / WORD; w <= b / WORD; w++) {
                words[w] ^= spanIn(w, a, b);
            }
        }

        void become(int[] other) {
            System.arraycopy(other, 0, words, 0, words.length);
        }

        void becomeJoined(int how, KeySet first, KeySet second) {
            for (int w = 0; w < words.length; w++) {
                words[w] = joined(how, first.words[w], second.words[w]);
            }
        }

        private static int joined(int how, int a, int b) {
            switch (how) {
                case 0:
                    return a & b;
                case 1:
                    return a | b;
                case 2:
                    return a ^ b;
                default:
                    return a & ~b;
            }
        }

        void moveBy(int v) {
            int[] before = words.clone();
            for (int w = 0; w < words.length; w++) {
                words[w] = cutOut(before, w * WORD - v) & spanIn(w, 0, top - 1);
            }
        }

        /** As many bits as a word has, from KEY start on (it may be none), 0 where there are no KEYS. */
        private static int cutOut(int[] from, int start) {
            int w = start >> 5;
            int left = start & (WORD - 1);
            int low = wordOf(from, w) >>> left;
            return left == 0 ? low : low | (wordOf(from, w + 1) << (WORD - left));
        }

        private static int wordOf(int[] from, int w) {
            return within(w, 0, from.length - 1) ? from[w] : 0;
        }

        int size() {
            return sizeWithin(0, top - 1);
        }

        int sizeWithin(int a, int b) {
            int size = 0;
            for (int w = 0; w < words.length; w++) {
                size += Integer.bitCount(words[w] & spanIn(w, a, b));
            }
            return size;
        }

        int total() {
            int total = 0;
            for (int key = 0; key < top; key++) {
                total += holds(key) ? key : 0;
            }
            return total;
        }

        /** The least KEY of the SET that is not less than a number (0 or more). */
        int from(int key) {
            for (int w = key / WORD; w < words.length; w++) {
                int here = words[w] & spanIn(w, key, top - 1);
                if (here != 0) {
                    return w * WORD + Node.leastOf(here);
                }
            }
            return NONE;
        }

        /** The greatest KEY of the SET that is not greater than a number (-1, or a KEY). */
        int upTo(int key) {
            for (int w = Math.min(key >> 5, words.length - 1); w >= 0; w--) {
                int here = words[w] & spanIn(w, 0, key);
                if (here != 0) {
                    return w * WORD + Node.greatestOf(here);
                }
            }
            return NONE;
        }

        int least() {
            return from(0);
        }

        int greatest() {
            return upTo(top - 1);
        }

        int following(int key) {
            switch (sort) {
                case ROUND:
                    return eitherOf(from(key + 1), least());
                case CLOSED:
                    return from(key);
                case BELOW:
                    return upTo(key - 1);
                case DEEP:
                    return eitherOf(upTo(key - 1), greatest());
                default:
                    return from(key + 1);
            }
        }

        private static int eitherOf(int wanted, int instead) {
            return wanted == NONE ? instead : wanted;
        }

        int nearest(int key) {
            int up = from(key);
            int down = upTo(key);
            if (up == NONE || down == NONE) {
                return eitherOf(up, down);
            }
            return up - key < key - down ? up : down;
        }

        int keyAt(int k) {
            int left = k;
            for (int w = 0; w < words.length; w++) {
                int here = words[w];
                int size = Integer.bitCount(here);
                if (left < size) {
                    for (int i = 0; i < left; i++) {
                        here = Node.withoutLeast(here);
                    }
                    return w * WORD + Node.leastOf(here);
                }
                left -= size;
            }
            return NONE;
        }

        /** The lesser KEY of the two next to one another that are farthest apart. */
        int widestFrom() {
            int best = NONE;
            int width = 0;
            int lesser = least();
            for (int i = 0; i < top && lesser != NONE; i++) {
                int greater = from(lesser + 1);
                if (greater != NONE && greater - lesser > width) {
                    best = lesser;
                    width = greater - lesser;
                }
                lesser = greater;
            }
            return best;
        }

        boolean hasWord(int level, int i) {
            return level == 0 && within(i, 0, words.length - 1) || level == 1 && words.length > 1 && i == 0;
        }

        int wordAt(int level, int i) {
            return level == 0 ? words[i] : upperWord();
        }

        private int upperWord() {
            int upper = 0;
            for (int w = 0; w < words.length; w++) {
                upper |= words[w] == 0 ? 0 : 1 << w;
            }
            return upper;
        }

        boolean isHigh(int x) {
            return within(x, 0, (1 << highBits) - 1);
        }

        /** CLUSTER x of the ROOT, of which the LEAST is told; a CLUSTER never reaches over the end of a word. */
        int clusterAt(int x, int least) {
            int w = (x << lowBits) / WORD;
            boolean hasLeast = least != NONE && least / WORD == w;
            return Node.clusterIn(hasLeast ? Node.withoutLeast(words[w]) : words[w], lowBits, x);
        }

        int rootSummary() {
            int least = least();
            int summary = 0;
            for (int x = 0; x < 1 << highBits; x++) {
                summary |= clusterAt(x, least) == 0 ? 0 : 1 << x;
            }
            return summary;
        }

        int rootNodes() {
            int least = least();
            if (least == NONE) {
                return 0;
            }
            int nodes = 1 + Node.nodesOf(rootSummary(), highBits);
            for (int x = 0; x < 1 << highBits; x++) {
                nodes += Node.nodesOf(clusterAt(x, least), lowBits);
            }
            return nodes;
        }

        int rootDepth() {
            int least = least();
            if (least == NONE) {
                return 0;
            }
            int depth = Node.depthOf(rootSummary(), highBits);
            for (int x = 0; x < 1 << highBits; x++) {
                depth = Math.max(depth, Node.depthOf(clusterAt(x, least), lowBits));
            }
            return 1 + depth;
        }

        int rootSteps(int key) {
            int least = least();
            if (least == NONE || key < least) {
                return 1;
            }
            int high = key >> lowBits;
            int low = key - (high << lowBits);
            int cluster = clusterAt(high, least);
            if (cluster != 0 && Node.greatestOf(cluster) > low) {
                return 1 + Node.stepsAbove(cluster, lowBits, low);
            }
            return 1 + Node.stepsAbove(rootSummary(), highBits, high);
        }
    }

    /**
     * NODES of five bits or fewer: their NUMBERS are the bits of one int. Each that calls itself does so with
     * fewer bits, and ends at one bit.
     */
    private static final class Node {
        static int lowOf(int bits) {
            return bits / 2;
        }

        static int highOf(int bits) {
            return bits - bits / 2;
        }

        static int leastOf(int numbers) {
            return numbers == 0 ? NONE : Integer.numberOfTrailingZeros(numbers);
        }

        static int greatestOf(int numbers) {
            return numbers == 0 ? NONE : WORD - 1 - Integer.numberOfLeadingZeros(numbers);
        }

        static int withoutLeast(int numbers) {
            return numbers & (numbers - 1);
        }

        static int clusterIn(int held, int lowBits, int x) {
            int start = (x << lowBits) % WORD;
            return (held >>> start) & (-1 >>> (WORD - (1 << lowBits)));
        }

        static int summaryIn(int held, int bits) {
            int summary = 0;
            for (int x = 0; x < 1 << highOf(bits); x++) {
                summary |= clusterIn(held, lowOf(bits), x) == 0 ? 0 : 1 << x;
            }
            return summary;
        }

        static int about(int numbers, int bits, int what) {
            if (what == 2) {
                return nodesOf(numbers, bits);
            }
            return what == 0 ? leastOf(numbers) : greatestOf(numbers);
        }

        private static int nodesOf(int numbers, int bits) {
            if (numbers == 0 || bits < 2) {
                return numbers == 0 ? 0 : 1;
            }
            int held = withoutLeast(numbers);
            int nodes = 1 + nodesOf(summaryIn(held, bits), highOf(bits));
            for (int x = 0; x < 1 << highOf(bits); x++) {
                nodes += nodesOf(clusterIn(held, lowOf(bits), x), lowOf(bits));
            }
            return nodes;
        }

        private static int depthOf(int numbers, int bits) {
            if (numbers == 0 || bits < 2) {
                return numbers == 0 ? 0 : 1;
            }
            int held = withoutLeast(numbers);
            int depth = depthOf(summaryIn(held, bits), highOf(bits));
            for (int x = 0; x < 1 << highOf(bits); x++) {
                depth = Math.max(depth, depthOf(clusterIn(held, lowOf(bits), x), lowOf(bits)));
            }
            return 1 + depth;
        }

        private static int stepsAbove(int numbers, int bits, int number) {
            if (numbers == 0 || bits < 2 || number < leastOf(numbers)) {
                return 1;
            }
            int held = withoutLeast(numbers);
            int high = number >> lowOf(bits);
            int low = number - (high << lowOf(bits));
            int cluster = clusterIn(held, lowOf(bits), high);
            if (cluster != 0 && greatestOf(cluster) > low) {
                return 1 + stepsAbove(cluster, lowOf(bits), low);
            }
            return 1 + stepsAbove(summaryIn(held, bits), highOf(bits), high);
        }
    }

    /** The ACTS that can be undone, in a ring: of each the SET and the words that it had ahead. */
    private static final class Acts {
        final KeySet[] changed = new KeySet[ACTS];
        final int[][] before = new int[ACTS][MOST_WORDS];
        int coming = 0;
        int kept = 0;

        void keep(KeySet one) {
            changed[coming] = one;
            System.arraycopy(one.words, 0, before[coming], 0, one.words.length);
            coming = (coming + 1) % ACTS;
            kept = Math.min(kept + 1, ACTS);
        }

        void takeBack() {
            coming = (coming + ACTS - 1) % ACTS;
            kept--;
            KeySet one = changed[coming];
            if (one != null) {
                one.become(before[coming]);
            }
        }

        void forget() {
            kept = 0;
        }
    }

    /** ASKS and THE TRACE that their BODIES leave. */
    private static final class Asks {
        private static final int ASK_SIZE = 0, ASK_MARK = 1, DEEPEST = 12;
        /** The BODY that begins, by KIND. */
        private static final int[] SIZE_BODY = {10, 11, 12, 11, 13, 14};
        private static final int[] MARK_BODY = {20, 21, 24, 22, 23, 23};

        final int[] left = new int[TRACE_ROOM];
        int leaving = 0;

        int answerAnew(KeySet one, int what) {
            leaving = 0;
            return answer(one, what, 0);
        }

        int leftAt(int i) {
            return within(i, 0, leaving - 1) ? left[i] : NONE;
        }

        private int answer(KeySet one, int what, int depth) {
            if (!within(one.sort, 0, DEEP)) {
                return 0;
            }
            return body(one, what == ASK_SIZE ? SIZE_BODY[one.sort] : MARK_BODY[one.sort], depth + 1);
        }

        private int body(KeySet one, int number, int depth) {
            if (depth > DEEPEST) {
                return 0;
            }
            leave(number);
            int deeper = depth + 1;
            switch (number) {
                case 10:
                    return one.size();
                case 11:
                    return body(one, 10, deeper) + answer(one, ASK_MARK, deeper);
                case 12:
                    return -body(one, 11, deeper);
                case 13:
                    return body(one, 10, deeper) - 100;
                case 14:
                    return 2 * body(one, 13, deeper);
                case 20:
                    return one.number;
                case 21:
                    return body(one, 20, deeper) + Math.max(one.least(), 0);
                case 22:
                    return body(one, 21, deeper) - 1000;
                case 23:
                    return body(one, 20, deeper) - answer(one, ASK_SIZE, deeper);
                case 24:
                    return 2 * body(one, 21, deeper);
                default:
                    return 0;
            }
        }

        private void leave(int number) {
            if (leaving < TRACE_ROOM) {
                left[leaving] = number;
                leaving++;
            }
        }
    }
}
