/**
 * A NextKeys that keeps in mind the call at hand, so that a wrong answer can be told by it, and that counts: what an
 * object answers behind its 512th call is free, so no test may look at it.
 */
final class Keys {
    private static final int MOST_CALLS = 512;
    private static String name = "";
    private static int[] numbers = {};

    private final NextKeys inner = new NextKeys();
    private int calls = 0;

    /** The latest call, of whichever object, as it is written. */
    static String latest() {
        StringBuilder text = new StringBuilder(name).append('(');
        for (int i = 0; i < numbers.length; i++) {
            text.append(i == 0 ? "" : ", ").append(numbers[i]);
        }
        return text.append(')').toString();
    }

    int left() {
        return MOST_CALLS - calls;
    }

    private void note(String call, int... with) {
        name = call;
        numbers = with;
        calls++;
        if (calls > MOST_CALLS) {
            throw new IllegalStateException("a test makes more than 512 calls of one object");
        }
    }

    int row(int row, int lane, int n) {
        note("row", row, lane, n);
        return inner.row(row, lane, n);
    }

    int set(int row, int i, int v) {
        note("set", row, i, v);
        return inner.set(row, i, v);
    }

    int copy(int a, int i, int b, int j, int n) {
        note("copy", a, i, b, j, n);
        return inner.copy(a, i, b, j, n);
    }

    int drop(int row) {
        note("drop", row);
        return inner.drop(row);
    }

    int feed(int letter) {
        note("feed", letter);
        return inner.feed(letter);
    }

    int shelf() {
        note("shelf");
        return inner.shelf();
    }

    int fault() {
        note("fault");
        return inner.fault();
    }

    int undo() {
        note("undo");
        return inner.undo();
    }

    int add(int set, int key) {
        note("add", set, key);
        return inner.add(set, key);
    }

    int take(int set, int key) {
        note("take", set, key);
        return inner.take(set, key);
    }

    int flip(int set, int a, int b) {
        note("flip", set, a, b);
        return inner.flip(set, a, b);
    }

    int join(int how, int a, int b, int c) {
        note("join", how, a, b, c);
        return inner.join(how, a, b, c);
    }

    int shift(int set, int v) {
        note("shift", set, v);
        return inner.shift(set, v);
    }

    int gather(int set, int row, int i, int n) {
        note("gather", set, row, i, n);
        return inner.gather(set, row, i, n);
    }

    int contains(int set, int key) {
        note("contains", set, key);
        return inner.contains(set, key);
    }

    int keys(int set) {
        note("keys", set);
        return inner.keys(set);
    }

    int end(int set, int what) {
        note("end", set, what);
        return inner.end(set, what);
    }

    int next(int set, int key) {
        note("next", set, key);
        return inner.next(set, key);
    }

    int beside(int set, int key, int what) {
        note("beside", set, key, what);
        return inner.beside(set, key, what);
    }

    int steps(int set, int key) {
        note("steps", set, key);
        return inner.steps(set, key);
    }

    int tree(int set, int what) {
        note("tree", set, what);
        return inner.tree(set, what);
    }

    int cluster(int set, int x, int what) {
        note("cluster", set, x, what);
        return inner.cluster(set, x, what);
    }

    int summary(int set, int what) {
        note("summary", set, what);
        return inner.summary(set, what);
    }

    int word(int set, int level, int i) {
        note("word", set, level, i);
        return inner.word(set, level, i);
    }

    int bits(int set, int level, int i, int what) {
        note("bits", set, level, i, what);
        return inner.bits(set, level, i, what);
    }

    int share(int set, int what) {
        note("share", set, what);
        return inner.share(set, what);
    }

    int rank(int set, int key) {
        note("rank", set, key);
        return inner.rank(set, key);
    }

    int nth(int set, int k) {
        note("nth", set, k);
        return inner.nth(set, k);
    }

    int near(int set, int key) {
        note("near", set, key);
        return inner.near(set, key);
    }

    int tell(int set, int key, int row, int i) {
        note("tell", set, key, row, i);
        return inner.tell(set, key, row, i);
    }

    int chase(int a, int b, int key, int n) {
        note("chase", a, b, key, n);
        return inner.chase(a, b, key, n);
    }

    int meet(int key) {
        note("meet", key);
        return inner.meet(key);
    }

    int cover(int a, int b, int what) {
        note("cover", a, b, what);
        return inner.cover(a, b, what);
    }

    int gap(int set, int what) {
        note("gap", set, what);
        return inner.gap(set, what);
    }

    long likely(int set, int key, int other, int p, int what) {
        note("likely", set, key, other, p, what);
        return inner.likely(set, key, other, p, what);
    }

    int drawn(int n, int seed, int what) {
        note("drawn", n, seed, what);
        return inner.drawn(n, seed, what);
    }

    int image(int k) {
        note("image", k);
        return inner.image(k);
    }

    int restore(int k) {
        note("restore", k);
        return inner.restore(k);
    }

    int kind(int one) {
        note("kind", one);
        return inner.kind(one);
    }

    int as(int one, int kind) {
        note("as", one, kind);
        return inner.as(one, kind);
    }

    int ask(int one, int what) {
        note("ask", one, what);
        return inner.ask(one, what);
    }

    int trace(int i) {
        note("trace", i);
        return inner.trace(i);
    }

    int count(int what) {
        note("count", what);
        return inner.count(what);
    }

    int status() {
        note("status");
        return inner.status();
    }
}
