/** Promise by promise: ordinary inputs, the edges that the document names, wrong inputs. */
public final class PromiseTest {
    static final int NONE = -1000000, BAD = -1000001, STATE = -1000002, FULL = -1000003;
    static final int NULL = -1000011, PLACE = -1000012, KIND = -1000013, SIZE = -1000014, STORE = -1000015;
    static final int MIN = Integer.MIN_VALUE, MAX = Integer.MAX_VALUE;
    static int wrong = 0;
    static int promise = 0;

    public static void main(String[] args) {
        newObject();
        rows();
        copies();
        drops();
        tapes();
        faults();
        undoing();
        addAndTake();
        flips();
        joins();
        shifts();
        gathers();
        plainFacts();
        nextOnes();
        nodes();
        words();
        shares();
        ranks();
        tells();
        chases();
        meets();
        covers();
        gaps();
        likelies();
        draws();
        images();
        kinds();
        asks();
        counts();
        statuses();
        System.out.println(wrong == 0 ? "every promise holds" : wrong + " answers break a promise");
        if (wrong != 0) {
            System.exit(1);
        }
    }

    static void due(String call, long got, long want) {
        if (got != want) {
            wrong++;
            System.out.println("promise " + promise + ": " + call + " answered " + got + ", due is " + want);
        }
    }

    static int feed(Keys x, String text) {
        int last = 0;
        for (int i = 0; i < text.length(); i++) {
            last = x.feed(text.charAt(i));
        }
        return last;
    }

    /** A new object with the SHELF that a text tells. */
    static Keys told(String text) {
        Keys x = new Keys();
        feed(x, text);
        if (x.shelf() < 1) {
            due("shelf of " + text, 0, 1);
        }
        return x;
    }

    /** The KEYS of a SET, one by one. */
    static void dueKeys(Keys x, int set, int... want) {
        due("keys", x.keys(set), want.length);
        for (int k = 0; k < want.length; k++) {
            due("nth " + k, x.nth(set, k), want[k]);
        }
        due("nth behind the last", x.nth(set, want.length), NONE);
    }

    /** No call reads an ITEM, so each is gathered into SET 0 and that is undone. */
    static void dueItems(Keys x, int row, int... want) {
        for (int i = 0; i < want.length; i++) {
            int before = x.keys(0);
            int more = x.contains(0, want[i]) == 1 ? 0 : 1;
            due("item " + i, x.gather(0, row, i, 1), before + more);
            due("item " + i + " is " + want[i], x.contains(0, want[i]), 1);
            x.undo();
        }
    }

    static void newObject() {
        promise = 1;
        Keys x = new Keys();
        for (int what = 0; what <= 6; what++) {
            due("count(" + what + ")", x.count(what), 0);
        }
        due("status", x.status(), 0);
        due("fault", x.fault(), 0);
        due("trace", x.trace(0), NONE);
        due("keys", x.keys(0), BAD);
        due("undo", x.undo(), STATE);
        due("drawn", x.drawn(1, 1, 0), STATE);
        due("image", x.image(0), STATE);
        due("restore", x.restore(1), STATE);
    }

    static void rows() {
        promise = 2;
        Keys x = new Keys();
        due("row", x.row(0, 0, 0), 0);
        due("row of 40", x.row(7, 2, 40), 40);
        due("row of 41", x.row(1, 2, 41), BAD);
        due("row 8", x.row(8, 0, 1), BAD);
        due("row -1", x.row(-1, 0, 1), BAD);
        due("lane -1", x.row(1, -1, 1), BAD);
        due("lane 3", x.row(1, 3, 1), BAD);
        due("n below 0", x.row(7, 2, -1), SIZE);
        due("n far below 0", x.row(7, 0, MIN), SIZE);
        due("BAD ahead of SIZE", x.row(8, 0, -1), BAD);
        due("the ROW stays", x.drop(7), 40);
        due("rows", x.count(0), 1);
        x.row(0, 2, 3);
        due("set", x.set(0, 2, 9), 9);
        due("in place", x.row(0, 1, 3), 3);
        due("copied onto itself", x.copy(0, 0, 0, 0, 3), 3);
        due("as a short", x.set(0, 0, 65535), -1);

        promise = 3;
        x = new Keys();
        x.row(0, 0, 2);
        x.row(1, 1, 2);
        x.row(2, 2, 2);
        due("byte", x.set(0, 0, 127), 127);
        due("byte 128", x.set(0, 1, 128), -128);
        due("byte 256", x.set(0, 1, 256), 0);
        due("byte -129", x.set(0, 1, -129), 127);
        due("short 32767", x.set(1, 0, 32767), 32767);
        due("short 32768", x.set(1, 0, 32768), -32768);
        due("short least", x.set(1, 1, MIN), 0);
        due("int least", x.set(2, 0, MIN), MIN);
        due("int greatest", x.set(2, 1, MAX), MAX);
        due("place 2", x.set(2, 2, 1), PLACE);
        due("place -1", x.set(2, -1, 1), PLACE);
        due("place far", x.set(2, MAX, 1), PLACE);
        due("missing", x.set(3, 0, 1), NULL);
        due("missing, and no place", x.set(3, -1, 1), NULL);
        due("no row", x.set(8, 0, 1), BAD);
        due("no row", x.set(-1, 0, 1), BAD);
    }

    static void copies() {
        promise = 4;
        Keys x = told("u5;a31;");
        x.row(0, 2, 5);
        x.row(1, 2, 3);
        x.row(2, 1, 5);
        for (int i = 0; i < 5; i++) {
            x.set(0, i, 10 + i);
        }
        due("copy", x.copy(0, 3, 1, 1, 2), 2);
        dueItems(x, 1, 0, 13, 14);
        due("forward onto itself", x.copy(0, 0, 0, 1, 4), 4);
        dueItems(x, 0, 10, 10, 11, 12, 13);
        due("backward onto itself", x.copy(0, 1, 0, 0, 4), 4);
        dueItems(x, 0, 10, 11, 12, 13, 13);
        due("none at the ends", x.copy(0, 5, 1, 3, 0), 0);
        due("beyond the end of a", x.copy(0, 6, 1, 0, 0), PLACE);
        due("beyond the end of b", x.copy(0, 0, 1, 4, 0), PLACE);
        due("too many of a", x.copy(1, 2, 0, 0, 2), PLACE);
        due("too many for b", x.copy(0, 0, 1, 1, 3), PLACE);
        due("n below 0", x.copy(0, 0, 1, 0, -1), PLACE);
        due("i below 0", x.copy(0, -1, 1, 0, 1), PLACE);
        due("j below 0", x.copy(0, 0, 1, -1, 1), PLACE);
        due("far", x.copy(0, MAX, 1, 0, MAX), PLACE);
        due("far", x.copy(0, 1, 1, MAX, MAX), PLACE);
        due("least", x.copy(0, MIN, 1, MIN, MIN), PLACE);
        due("two lanes", x.copy(0, 0, 2, 0, 1), STORE);
        due("STORE ahead of PLACE", x.copy(0, -1, 2, 0, 1), STORE);
        due("a missing", x.copy(3, 0, 0, 0, 1), NULL);
        due("b missing", x.copy(0, 0, 3, 0, 1), NULL);
        due("no a", x.copy(8, 0, 0, 0, 1), BAD);
        due("no b, a missing", x.copy(3, 0, -1, 0, 1), BAD);
        dueItems(x, 0, 10, 11, 12, 13, 13);
        dueItems(x, 1, 0, 13, 14);
    }

    static void drops() {
        promise = 5;
        Keys x = new Keys();
        x.row(3, 0, 7);
        x.row(4, 0, 0);
        due("drop", x.drop(3), 7);
        due("drop again", x.drop(3), NULL);
        due("drop none", x.drop(4), 0);
        due("drop 8", x.drop(8), BAD);
        due("drop -1", x.drop(-1), BAD);
        due("rows", x.count(0), 0);
    }

    static void tapes() {
        promise = 6;
        Keys x = new Keys();
        due("first", x.feed(0), 1);
        due("second", x.feed(255), 2);
        due("256", x.feed(256), BAD);
        due("-1", x.feed(-1), BAD);
        for (int i = 3; i <= 110; i++) {
            due("byte " + i, x.feed(i), i);
        }
        due("byte 111", x.feed(0), FULL);
        due("BAD ahead of FULL", x.feed(256), BAD);
        due("on the tape", x.count(6), 110);
        due("a byte that is none", x.shelf(), -1000100);

        promise = 7;
        x = new Keys();
        due("text", feed(x, "u10;a0,99;r5;c07;b1,1,1;"), 24);
        due("shelf", x.shelf(), 4);
        due("tape", x.count(6), 0);
        due("bits", x.count(2), 10);
        dueKeys(x, 0, 0, 99);
        dueKeys(x, 1, 5);
        dueKeys(x, 2, 7);
        dueKeys(x, 3, 1);
        x.add(0, 1);
        feed(x, "u3;d7;");
        due("another", x.shelf(), 1);
        due("no ACT", x.count(5), 0);
        due("undo", x.undo(), STATE);
        dueKeys(x, 0, 7);
        due("kind", x.kind(0), 5);
        due("set 1", x.keys(1), BAD);
        x.add(0, 2);
        feed(x, "u4;a3");
        due("a fault", x.shelf(), -1000105);
        due("all stays", x.count(2), 3);
        due("all stays", x.count(5), 1);
        dueKeys(x, 0, 2, 7);
        due("the tape is empty", x.count(6), 0);

        StringBuilder longest = new StringBuilder("u10;a1");
        while (longest.length() < 108) {
            longest.append(",").append("2");
        }
        longest.append("3;");
        x = new Keys();
        due("110 bytes", feed(x, longest.toString()), 110);
        due("a text of 110 bytes", x.shelf(), 1);
        dueKeys(x, 0, 1, 2, 23);
    }

    static void dueFault(Keys x, String text, int place, int number) {
        feed(x, text);
        due("shelf of \"" + text + "\"", x.shelf(), -1000100 - place);
        due("fault of \"" + text + "\"", x.fault(), number);
    }

    static void faults() {
        promise = 8;
        Keys x = new Keys();
        due("none yet", x.fault(), 0);
        dueFault(x, "", 0, 1);
        dueFault(x, "a", 0, 1);
        dueFault(x, "2", 0, 1);
        dueFault(x, "u;", 1, 1);
        dueFault(x, "u1;a0;", 1, 2);
        dueFault(x, "u11;a0;", 1, 2);
        dueFault(x, "u00;a0;", 1, 2);
        dueFault(x, "u99", 1, 2);
        dueFault(x, "u010;a0;", 1, 1);
        dueFault(x, "u2,", 2, 1);
        dueFault(x, "u2;", 3, 1);
        dueFault(x, "u2;;", 3, 1);
        dueFault(x, "u2;e0;", 3, 1);
        dueFault(x, "u2;u2;", 3, 1);
        dueFault(x, "u2;a;", 4, 1);
        dueFault(x, "u2;a,", 4, 1);
        dueFault(x, "u2;ab", 4, 1);
        dueFault(x, "u2;a4;", 4, 2);
        dueFault(x, "u2;a3,4", 6, 2);
        dueFault(x, "u7;a100;", 4, 1);
        dueFault(x, "u7;a0000;", 4, 1);
        dueFault(x, "u2;a0", 5, 1);
        dueFault(x, "u2;a0b", 5, 1);
        dueFault(x, "u2;a0,;", 6, 1);
        dueFault(x, "u2;a0;A", 6, 1);
        dueFault(x, "u2;a0; ", 6, 1);
        dueFault(x, "u2;a0;b0;c0;d0;r0;", 15, 3);
        dueFault(x, "u2;a0;b0;c0;d0;r", 15, 3);
        dueFault(x, "u2;a0;b0;c0;d0;z", 15, 1);
        dueFault(x, "u2;a0;b0;c0;d0;1", 15, 1);
        dueFault(x, "u2;a4; ", 4, 2);
        due("no SHELF yet", x.count(1), 0);
        feed(x, "u02;a0,03;");
        due("read", x.shelf(), 1);
        due("the latest fault", x.fault(), 2);
        feed(x, "u6;a63;");
        due("the greatest KEY", x.shelf(), 1);
        dueFault(x, "u6;a64;", 4, 2);
        feed(x, "u7;a99;");
        due("99", x.shelf(), 1);
    }

    static void undoing() {
        promise = 9;
        Keys x = told("u4;a1;b2;");
        due("none", x.undo(), STATE);
        x.add(0, 5);
        x.take(1, 2);
        x.flip(0, 0, 15);
        x.join(1, 0, 1, 1);
        x.shift(1, 3);
        due("acts", x.count(5), 5);
        due("undo shift", x.undo(), 4);
        due("keys", x.keys(1), 14);
        due("undo join", x.undo(), 3);
        dueKeys(x, 1);
        due("undo flip", x.undo(), 2);
        dueKeys(x, 0, 1, 5);
        due("undo take", x.undo(), 1);
        dueKeys(x, 1, 2);
        due("undo add", x.undo(), 0);
        dueKeys(x, 0, 1);
        due("none left", x.undo(), STATE);
        for (int i = 0; i < 30; i++) {
            x.flip(0, i / 2, i / 2);
        }
        due("24 are kept", x.count(5), 24);
        x.add(0, 15);
        for (int i = 23; i >= 0; i--) {
            due("undo", x.undo(), i);
        }
        due("none left", x.undo(), STATE);
        dueKeys(x, 0, 1, 3);
        x.add(0, 9);
        due("refused", x.add(0, 9), STATE);
        due("refused", x.flip(0, 3, 2), BAD);
        due("what is refused is no ACT", x.count(5), 1);
    }

    static void addAndTake() {
        promise = 10;
        Keys x = told("u6;a3;b4;");
        due("add", x.add(0, 63), 2);
        due("add 0", x.add(0, 0), 3);
        due("there", x.add(0, 3), STATE);
        due("64", x.add(0, 64), BAD);
        due("-1", x.add(0, -1), BAD);
        due("set 2", x.add(2, 1), BAD);
        due("set -1", x.add(-1, 1), BAD);
        due("far", x.add(0, MAX), BAD);
        dueKeys(x, 0, 0, 3, 63);
        dueKeys(x, 1, 4);

        promise = 11;
        due("take", x.take(0, 3), 2);
        due("not there", x.take(0, 3), STATE);
        due("64", x.take(0, 64), BAD);
        due("-1", x.take(0, -1), BAD);
        due("set 2", x.take(2, 4), BAD);
        due("take 63", x.take(0, 63), 1);
        due("take 0", x.take(0, 0), 0);
        dueKeys(x, 0);
        dueKeys(x, 1, 4);
    }

    static void flips() {
        promise = 12;
        Keys x = told("u7;a30,33,64,96;");
        due("over words", x.flip(0, 31, 64), 4 - 2 + 32);
        due("31", x.contains(0, 31), 1);
        due("33", x.contains(0, 33), 0);
        due("64", x.contains(0, 64), 0);
        due("65", x.contains(0, 65), 0);
        due("one", x.flip(0, 127, 127), 35);
        due("all", x.flip(0, 0, 127), 128 - 35);
        due("a above b", x.flip(0, 5, 4), BAD);
        due("no KEY", x.flip(0, 0, 128), BAD);
        due("no KEY", x.flip(0, -1, 3), BAD);
        due("no SET", x.flip(1, 0, 3), BAD);
        due("keys", x.keys(0), 93);
    }

    static void joins() {
        promise = 13;
        int[] sizes = {1, 3, 2, 1};
        for (int how = 0; how < 4; how++) {
            Keys x = told("u6;a1,40;b40,50;c7;");
            due("join " + how, x.join(how, 0, 1, 2), sizes[how]);
            due("1", x.contains(2, 1), how == 0 ? 0 : 1);
            due("40", x.contains(2, 40), how < 2 ? 1 : 0);
            due("50", x.contains(2, 50), how == 1 || how == 2 ? 1 : 0);
            due("7", x.contains(2, 7), 0);
            dueKeys(x, 0, 1, 40);
            dueKeys(x, 1, 40, 50);
        }
        Keys x = told("u6;a1,40;b40,50;");
        due("onto b", x.join(3, 0, 1, 1), 1);
        dueKeys(x, 1, 1);
        x.undo();
        due("onto a", x.join(2, 0, 1, 0), 2);
        dueKeys(x, 0, 1, 50);
        due("with itself", x.join(2, 0, 0, 0), 0);
        due("how 4", x.join(4, 0, 0, 0), BAD);
        due("how -1", x.join(-1, 0, 0, 0), BAD);
        due("no a", x.join(0, 2, 0, 0), BAD);
        due("no b", x.join(0, 0, 2, 0), BAD);
        due("no c", x.join(0, 0, 0, 2), BAD);
        due("acts", x.count(5), 2);
    }

    static void shifts() {
        promise = 14;
        Keys x = told("u6;a0,31,32,63;");
        due("up", x.shift(0, 1), 3);
        dueKeys(x, 0, 1, 32, 33);
        due("by a word", x.shift(0, 32), 1);
        dueKeys(x, 0, 33);
        due("down", x.shift(0, -33), 1);
        dueKeys(x, 0, 0);
        due("by 0", x.shift(0, 0), 1);
        due("an ACT each", x.count(5), 4);
        due("10000", x.shift(0, 10000), BAD);
        due("-10000", x.shift(0, -10000), BAD);
        due("no SET", x.shift(1, 1), BAD);
        due("9999", x.shift(0, 9999), 0);
        x.undo();
        due("-9999", x.shift(0, -9999), 0);
        x = told("u2;a3,2;");
        due("beyond a TOP below 32", x.shift(0, 1), 1);
        dueKeys(x, 0, 3);
        due("lost", x.shift(0, 1), 0);
        due("not held in secret", x.shift(0, -2), 0);
    }

    static void gathers() {
        promise = 15;
        Keys x = told("u4;a1;");
        x.row(0, 2, 5);
        x.set(0, 0, 1);
        x.set(0, 1, 3);
        x.set(0, 2, 3);
        x.set(0, 3, 15);
        x.set(0, 4, 16);
        due("gather", x.gather(0, 0, 0, 4), 3);
        dueKeys(x, 0, 1, 3, 15);
        due("no KEY", x.gather(0, 0, 0, 5), PLACE);
        x.set(0, 4, -1);
        x.set(0, 0, 7);
        due("no KEY, and nothing changes", x.gather(0, 0, 0, 5), PLACE);
        dueKeys(x, 0, 1, 3, 15);
        due("beyond", x.gather(0, 0, 2, 4), PLACE);
        due("below", x.gather(0, 0, -1, 2), PLACE);
        due("far", x.gather(0, 0, MAX, 40), PLACE);
        due("missing", x.gather(0, 1, 0, 1), NULL);
        due("n 0", x.gather(0, 0, 0, 0), BAD);
        due("n 41", x.gather(0, 0, 0, 41), BAD);
        due("n 40", x.gather(0, 0, 0, 40), PLACE);
        due("n 41 ahead of NULL", x.gather(0, 1, 0, 41), BAD);
        due("row 8", x.gather(0, 8, 0, 1), BAD);
        due("set 1", x.gather(1, 0, 0, 1), BAD);
        due("undone as one", x.undo(), 0);
        dueKeys(x, 0, 1);
    }

    static void plainFacts() {
        promise = 16;
        Keys x = told("u6;a0,31,32,63;b5;");
        due("0", x.contains(0, 0), 1);
        due("1", x.contains(0, 1), 0);
        due("31", x.contains(0, 31), 1);
        due("63", x.contains(0, 63), 1);
        due("64", x.contains(0, 64), BAD);
        due("-1", x.contains(0, -1), BAD);
        due("set 2", x.contains(2, 0), BAD);

        promise = 17;
        due("keys", x.keys(0), 4);
        due("keys", x.keys(1), 1);
        due("set 2", x.keys(2), BAD);
        due("set -1", x.keys(-1), BAD);

        promise = 18;
        due("least", x.end(0, 0), 0);
        due("greatest", x.end(0, 1), 63);
        due("what 2", x.end(0, 2), BAD);
        due("what -1", x.end(0, -1), BAD);
        due("set 2", x.end(2, 0), BAD);
        x.take(1, 5);
        due("none", x.end(1, 0), NONE);
        due("none", x.end(1, 1), NONE);
    }

    static void nextOnes() {
        promise = 19;
        String keys = "10,20,40;";
        int[] asked = {0, 10, 15, 40, 63};
        int[][] want = {{10, 20, 20, NONE, NONE}, {10, 20, 20, 10, 10}, {10, 10, 20, 40, NONE},
            {NONE, NONE, 10, 20, 40}, {40, 40, 10, 20, 40}};
        for (int sort = 0; sort < 5; sort++) {
            Keys x = told("u6;" + "arcbd".charAt(sort) + keys);
            for (int i = 0; i < asked.length; i++) {
                due("next of " + asked[i] + " in " + "arcbd".charAt(sort), x.next(0, asked[i]), want[sort][i]);
            }
            due("no KEY", x.next(0, 64), BAD);
            due("no KEY", x.next(0, -1), BAD);
            due("no SET", x.next(1, 0), BAD);
            x.flip(0, 0, 63);
            x.flip(0, 0, 63);
            x.shift(0, 100);
            due("of an EMPTY one", x.next(0, 20), NONE);
        }
        Keys one = told("u6;r9;d9;");
        due("round, one alone", one.next(0, 9), 9);
        due("deep, one alone", one.next(1, 9), 9);

        promise = 20;
        Keys x = told("u6;b10,40;r10,40;");
        for (int set = 0; set < 2; set++) {
            due("above", x.beside(set, 10, 0), 40);
            due("above the greatest", x.beside(set, 40, 0), NONE);
            due("above 63", x.beside(set, 63, 0), NONE);
            due("below", x.beside(set, 40, 1), 10);
            due("below the least", x.beside(set, 10, 1), NONE);
            due("below 0", x.beside(set, 0, 1), NONE);
        }
        due("what 2", x.beside(0, 10, 2), BAD);
        due("what -1", x.beside(0, 10, -1), BAD);
        due("no KEY", x.beside(0, 64, 0), BAD);
        due("no SET", x.beside(2, 0, 0), BAD);
    }

    static void nodes() {
        promise = 21;
        // 4 bits: 2 and 2. LEAST 1; 6 is CLUSTER 1, LOW 2; 7 is CLUSTER 1, LOW 3; 12 is CLUSTER 3, LOW 0.
        Keys x = told("u4;a1,6,7,12;");
        due("below the LEAST", x.steps(0, 0), 1);
        due("by the SUMMARY, below its LEAST", x.steps(0, 1), 2);
        due("by the CLUSTER, below its LEAST", x.steps(0, 5), 2);
        due("by the CLUSTER, its SUMMARY, of 1 bit", x.steps(0, 6), 3);
        due("by the SUMMARY", x.steps(0, 7), 3);
        due("none above", x.steps(0, 12), 3);
        due("no KEY", x.steps(0, 16), BAD);
        due("no KEY", x.steps(0, -1), BAD);
        due("no SET", x.steps(1, 0), BAD);

        promise = 22;
        // ROOT; SUMMARY {1, 3}: itself, its SUMMARY {1}, its CLUSTER 1 {1}; CLUSTER 1 {2, 3}: likewise; CLUSTER 3 {0}
        due("nodes", x.tree(0, 0), 1 + 3 + 3 + 1);
        due("depth", x.tree(0, 1), 3);
        due("what 2", x.tree(0, 2), BAD);
        due("what -1", x.tree(0, -1), BAD);
        due("no SET", x.tree(1, 0), BAD);

        promise = 23;
        due("least", x.cluster(0, 1, 0), 2);
        due("greatest", x.cluster(0, 1, 1), 3);
        due("nodes", x.cluster(0, 1, 2), 3);
        due("the LEAST of the ROOT is outside", x.cluster(0, 0, 0), NONE);
        due("the LEAST of the ROOT is outside", x.cluster(0, 0, 1), NONE);
        due("the LEAST of the ROOT is outside", x.cluster(0, 0, 2), 0);
        due("the last one", x.cluster(0, 3, 1), 0);
        due("no HIGH part", x.cluster(0, 4, 0), BAD);
        due("no HIGH part", x.cluster(0, -1, 0), BAD);
        due("what 3", x.cluster(0, 0, 3), BAD);
        due("what -1", x.cluster(0, 0, -1), BAD);
        due("no SET", x.cluster(1, 0, 0), BAD);
        Keys odd = told("u7;a0,99;");
        due("the greater half is HIGH", odd.cluster(0, 15, 0), NONE);
        due("no HIGH part of 4 bits", odd.cluster(0, 16, 0), BAD);
        due("HIGH 12, LOW 3", odd.cluster(0, 12, 0), 3);

        promise = 24;
        due("least", x.summary(0, 0), 1);
        due("greatest", x.summary(0, 1), 3);
        due("nodes", x.summary(0, 2), 3);
        due("what 3", x.summary(0, 3), BAD);
        due("what -1", x.summary(0, -1), BAD);
        due("no SET", x.summary(1, 0), BAD);
        x.shift(0, 99);
        due("EMPTY least", x.summary(0, 0), NONE);
        due("EMPTY greatest", x.summary(0, 1), NONE);
        due("EMPTY nodes", x.summary(0, 2), 0);
        due("EMPTY tree", x.tree(0, 0), 0);
        due("EMPTY depth", x.tree(0, 1), 0);
        due("EMPTY steps", x.steps(0, 3), 1);
        due("EMPTY cluster", x.cluster(0, 1, 0), NONE);
    }

    static void words() {
        promise = 25;
        Keys x = told("u7;a0,31,33,99;");
        due("word 0", x.word(0, 0, 0), MIN + 1);
        due("word 1", x.word(0, 0, 1), 2);
        due("word 2", x.word(0, 0, 2), 0);
        due("word 3", x.word(0, 0, 3), 8);
        due("word 4", x.word(0, 0, 4), BAD);
        due("word -1", x.word(0, 0, -1), BAD);
        due("level 1", x.word(0, 1, 0), 11);
        due("level 1, word 1", x.word(0, 1, 1), BAD);
        due("level 2", x.word(0, 2, 0), BAD);
        due("level -1", x.word(0, -1, 0), BAD);
        due("no SET", x.word(1, 0, 0), BAD);
        Keys small = told("u5;a31;");
        due("one word", small.word(0, 0, 0), MIN);
        due("one word alone", small.word(0, 0, 1), BAD);
        due("no level 1", small.word(0, 1, 0), BAD);
        due("two words", told("u6;a32;").word(0, 1, 0), 2);
        due("a TOP below 32", told("u2;a3;").word(0, 0, 0), 8);

        promise = 26;
        due("lead", x.bits(0, 0, 0, 0), 31);
        due("trail", x.bits(0, 0, 0, 1), 0);
        due("ones", x.bits(0, 0, 0, 2), 2);
        due("lead of 0", x.bits(0, 0, 2, 0), NONE);
        due("trail of 0", x.bits(0, 0, 2, 1), NONE);
        due("ones of 0", x.bits(0, 0, 2, 2), 0);
        due("lead above", x.bits(0, 1, 0, 0), 3);
        due("trail above", x.bits(0, 1, 0, 1), 0);
        due("ones above", x.bits(0, 1, 0, 2), 3);
        due("trail", x.bits(0, 0, 3, 1), 3);
        due("what 3", x.bits(0, 0, 0, 3), BAD);
        due("what -1", x.bits(0, 0, 0, -1), BAD);
        due("no word", x.bits(0, 0, 4, 0), BAD);
        due("no level", x.bits(0, 2, 0, 0), BAD);
        due("no SET", x.bits(1, 0, 0, 0), BAD);
    }

    static void shares() {
        promise = 27;
        Keys x = told("u10;a1,2;b0;");
        due("fill", x.share(0, 0), Float.floatToIntBits(2f / 1024));
        due("mean", x.share(0, 1), Float.floatToIntBits(1.5f));
        due("mean, cut", x.share(0, 2), 1);
        due("mean of 0", x.share(1, 1), 0);
        due("what 3", x.share(0, 3), BAD);
        due("what -1", x.share(0, -1), BAD);
        due("no SET", x.share(2, 0), BAD);
        x.take(1, 0);
        for (int what = 0; what < 3; what++) {
            due("EMPTY", x.share(1, what), 0);
        }
        x.flip(1, 0, 1023);
        due("full", x.share(1, 0), Float.floatToIntBits(1f));
        due("mean of all", x.share(1, 1), Float.floatToIntBits(511.5f));
        due("mean of all, cut", x.share(1, 2), 511);
        int total = 1023 * 512;
        for (int size = 1023; size > 910; size--) {
            int key = (size * 37) % 1024;
            x.take(1, key);
            total -= key;
            due("fill of " + size, x.share(1, 0), Float.floatToIntBits(size / 1024f));
            due("mean of " + size, x.share(1, 1), Float.floatToIntBits((float) ((double) total / size)));
            due("mean of " + size + ", cut", x.share(1, 2), total / size);
        }
    }

    static void ranks() {
        promise = 28;
        Keys x = told("u6;a3,31,32,63;");
        due("0", x.rank(0, 0), 0);
        due("3", x.rank(0, 3), 0);
        due("4", x.rank(0, 4), 1);
        due("32", x.rank(0, 32), 2);
        due("63", x.rank(0, 63), 3);
        due("64", x.rank(0, 64), BAD);
        due("-1", x.rank(0, -1), BAD);
        due("no SET", x.rank(1, 0), BAD);

        promise = 29;
        due("0", x.nth(0, 0), 3);
        due("2", x.nth(0, 2), 32);
        due("3", x.nth(0, 3), 63);
        due("4", x.nth(0, 4), NONE);
        due("far", x.nth(0, MAX), NONE);
        due("-1", x.nth(0, -1), BAD);
        due("no SET", x.nth(1, 0), BAD);

        promise = 30;
        due("itself", x.near(0, 31), 31);
        due("of two the lesser", x.near(0, 17), 3);
        due("nearer", x.near(0, 18), 31);
        due("least", x.near(0, 0), 3);
        due("greatest", x.near(0, 60), 63);
        due("64", x.near(0, 64), BAD);
        due("-1", x.near(0, -1), BAD);
        due("no SET", x.near(1, 0), BAD);
        x.take(0, 63);
        due("only below", x.near(0, 63), 32);
        x.shift(0, 999);
        due("none", x.near(0, 3), NONE);
    }

    static void tells() {
        promise = 31;
        Keys x = told("u8;a3,31,50,70;b99;");
        x.add(0, 200);
        x.row(0, 2, 5);
        due("from a KEY on", x.tell(0, 31, 0, 1), 4);
        dueItems(x, 0, 0, 31, 50, 70, 200);
        due("to its end", x.tell(0, 0, 0, 3), 2);
        dueItems(x, 0, 0, 31, 50, 3, 31);
        due("as many as there are", x.tell(1, 50, 0, 0), 1);
        dueItems(x, 0, 99, 31, 50, 3, 31);
        due("none", x.tell(1, 100, 0, 0), 0);
        due("at the end", x.tell(0, 0, 0, 5), 0);
        due("beyond", x.tell(0, 0, 0, 6), PLACE);
        due("below", x.tell(0, 0, 0, -1), PLACE);
        due("far", x.tell(0, 0, 0, MAX), PLACE);
        due("missing", x.tell(0, 0, 1, 0), NULL);
        due("row 8", x.tell(0, 0, 8, 0), BAD);
        due("no KEY", x.tell(0, 256, 0, 0), BAD);
        due("no KEY", x.tell(0, -1, 1, 0), BAD);
        due("no SET", x.tell(2, 0, 0, 0), BAD);
        dueItems(x, 0, 99, 31, 50, 3, 31);
        x.row(1, 0, 1);
        due("lowest bits", x.tell(0, 200, 1, 0), 1);
        due("a byte of 200 is no KEY", x.gather(0, 1, 0, 1), PLACE);
        x.row(2, 0, 2);
        x.tell(0, 70, 2, 0);
        due("a byte of 70 is one", x.gather(1, 2, 0, 1), 2);
        due("a byte of 70 is one", x.contains(1, 70), 1);
    }

    static void chases() {
        promise = 32;
        Keys x = told("u6;a5,10,15;b2,7,12;r4;");
        due("0 times", x.chase(0, 1, 9, 0), 9);
        due("once", x.chase(0, 1, 9, 1), 10);
        due("twice", x.chase(0, 1, 9, 2), 7);
        due("thrice", x.chase(0, 1, 9, 3), 10);
        due("60 times", x.chase(0, 1, 9, 60), 7);
        due("the other first", x.chase(1, 0, 9, 1), 7);
        due("none at some time", x.chase(0, 0, 9, 3), NONE);
        due("round and round", x.chase(2, 2, 9, 60), 4);
        due("61 times", x.chase(0, 1, 9, 61), BAD);
        due("-1 times", x.chase(0, 1, 9, -1), BAD);
        due("no KEY", x.chase(0, 1, 64, 0), BAD);
        due("no a", x.chase(3, 1, 0, 0), BAD);
        due("no b", x.chase(0, 3, 0, 0), BAD);
        due("nothing changes", x.count(5), 0);
    }

    static void meets() {
        promise = 33;
        Keys x = told("u7;a3,40,99;b3,41,99;c3,40,41,99;");
        due("it", x.meet(3), 3);
        due("from 0", x.meet(0), 3);
        due("greater", x.meet(4), 99);
        due("none", x.meet(100), NONE);
        due("no KEY", x.meet(128), BAD);
        due("no KEY", x.meet(-1), BAD);
    }

    static void covers() {
        promise = 34;
        Keys x = told("u6;a0,1,2;b2,3,31;c32,33;d0,1,2,3;");
        due("one", x.cover(0, 2, 0), 1);
        due("which, the least", x.cover(0, 2, 1), 1);
        due("the one that has all", x.cover(1, 3, 0), 1);
        due("which", x.cover(1, 3, 1), 8);
        due("over words", x.cover(31, 33, 0), 2);
        due("over words, which", x.cover(31, 33, 1), 6);
        due("one KEY", x.cover(2, 2, 1), 1);
        due("none", x.cover(3, 4, 0), NONE);
        due("none", x.cover(4, 4, 1), NONE);
        due("a above b", x.cover(3, 2, 0), BAD);
        due("what 2", x.cover(0, 0, 2), BAD);
        due("what -1", x.cover(0, 0, -1), BAD);
        due("no KEY", x.cover(0, 64, 0), BAD);
        due("no KEY", x.cover(-1, 0, 0), BAD);
        Keys y = told("u4;a0,1;b1,2;c0,2;");
        due("several, the least", y.cover(0, 2, 1), 3);
        due("how many", y.cover(0, 2, 0), 2);
    }

    static void gaps() {
        promise = 35;
        Keys x = told("u7;a3,10,17,20,99;b4;c1,2;");
        due("lesser", x.gap(0, 0), 20);
        due("how far", x.gap(0, 1), 79);
        x.take(0, 99);
        due("of several the first", x.gap(0, 0), 3);
        due("how far", x.gap(0, 1), 7);
        due("one alone", x.gap(1, 0), NONE);
        due("one alone", x.gap(1, 1), NONE);
        due("side by side", x.gap(2, 1), 1);
        x.take(1, 4);
        due("EMPTY", x.gap(1, 1), NONE);
        due("what 2", x.gap(0, 2), BAD);
        due("what -1", x.gap(0, -1), BAD);
        due("no SET", x.gap(3, 0), BAD);
    }

    static void likelies() {
        promise = 36;
        Keys x = told("u7;a3,10,17,20;b0;");
        due("next to it", x.likely(0, 3, 10, 3, 0), 7);
        due("next to it", x.likely(0, 3, 10, 3, 1), 10);
        due("the second", x.likely(0, 3, 17, 5, 0), 1);
        due("the second", x.likely(0, 3, 17, 5, 1), 4);
        due("the third of another KEY", x.likely(0, 4, 20, 2, 0), 4);
        due("the third of another KEY", x.likely(0, 4, 20, 2, 1), 125);
        due("none is lost, next", x.likely(0, 0, 3, 0, 0), 1);
        due("none is lost, next", x.likely(0, 0, 3, 0, 1), 1);
        due("none is lost, second", x.likely(0, 0, 10, 0, 0), 0);
        due("none is lost, second", x.likely(0, 0, 10, 0, 1), 1);
        due("all are lost", x.likely(0, 0, 3, 10, 0), 0);
        due("all are lost", x.likely(0, 0, 3, 10, 1), 1);
        due("itself", x.likely(0, 3, 3, 5, 0), STATE);
        due("less", x.likely(0, 10, 3, 5, 0), STATE);
        due("not there", x.likely(0, 3, 11, 5, 0), STATE);
        due("p 11", x.likely(0, 3, 11, 11, 0), BAD);
        due("p -1", x.likely(0, 3, 10, -1, 0), BAD);
        due("what 2", x.likely(0, 3, 10, 5, 2), BAD);
        due("what -1", x.likely(0, 3, 10, 5, -1), BAD);
        due("no KEY", x.likely(0, 128, 10, 5, 0), BAD);
        due("no other", x.likely(0, 3, 128, 5, 0), BAD);
        due("no SET", x.likely(2, 3, 10, 5, 0), BAD);
        x.flip(1, 1, 17);
        due("16 between", x.likely(1, 0, 17, 9, 0), 1853020188851841L);
        due("16 between", x.likely(1, 0, 17, 9, 1), 100000000000000000L);
        due("16 between, by half", x.likely(1, 0, 17, 5, 1), 131072L);
        x.add(1, 18);
        due("17 between", x.likely(1, 0, 18, 9, 0), STATE);
    }

    static void draws() {
        promise = 37;
        Keys x = told("u10;a0;b0;");
        // X: 16807 (set 1, KEY 2100 by 1024 leaves 52), 282475249 (set 1, KEY 35309406 by 1024 leaves 350)
        due("0 times", x.drawn(0, 1, 0), 2);
        due("0 times, nodes", x.drawn(0, 1, 1), 2);
        due("once", x.drawn(1, 1, 0), 3);
        due("once, nodes", x.drawn(1, 1, 1), 4);
        due("twice", x.drawn(2, 1, 0), 4);
        x.add(1, 52);
        due("turned off", x.drawn(1, 1, 0), 2);
        due("nothing changes", x.count(3), 3);
        due("nothing changes", x.count(5), 1);
        due("201 times", x.drawn(201, 1, 0), BAD);
        due("-1 times", x.drawn(-1, 1, 0), BAD);
        due("seed 0", x.drawn(1, 0, 0), BAD);
        due("seed 1000000", x.drawn(1, 1000000, 0), BAD);
        due("what 2", x.drawn(1, 1, 2), BAD);
        due("what -1", x.drawn(1, 1, -1), BAD);
        due("STATE ahead of BAD", new Keys().drawn(-1, 0, 9), STATE);
        Keys full = told("u10;a0;b0;r5;c9;");
        full.flip(0, 0, 1023);
        due("200 times", full.drawn(200, 77, 0), 1136);
        due("200 times, nodes", full.drawn(200, 77, 1), 1690);
    }

    static void images() {
        promise = 38;
        Keys x = new Keys();
        due("no SHELF", x.image(0), STATE);
        due("BAD ahead of STATE", x.image(2), BAD);
        feed(x, "u6;a3;r63;");
        x.shelf();
        x.add(0, 40);
        due("image 1", x.image(1), 1);
        due("it takes no ACT", x.count(5), 1);
        due("-1", x.image(-1), BAD);

        promise = 39;
        due("2", x.restore(2), BAD);
        due("-1", x.restore(-1), BAD);
        due("none kept", x.restore(0), STATE);
        x.flip(0, 0, 63);
        feed(x, "u2;d1;");
        x.shelf();
        x.add(0, 2);
        due("image 0", x.image(0), 1);
        due("restore", x.restore(1), 1);
        due("no ACT", x.count(5), 0);
        due("undo", x.undo(), STATE);
        due("bits", x.count(2), 6);
        due("sets", x.count(1), 2);
        due("kind", x.kind(1), 2);
        dueKeys(x, 0, 3, 40);
        dueKeys(x, 1, 63);
        x.add(0, 50);
        due("the image stays", x.restore(1), 1);
        dueKeys(x, 0, 3, 40);
        due("the other", x.restore(0), 1);
        dueKeys(x, 0, 1, 2);
        due("bits", x.count(2), 2);
        due("sets", x.keys(1), BAD);
        x.take(0, 1);
        due("kept anew", x.image(1), 1);
        x.restore(0);
        x.restore(1);
        dueKeys(x, 0, 2);
    }

    static void kinds() {
        promise = 40;
        String[] such = {"01", "012", "013", "04", "045"};
        for (int sort = 0; sort < 5; sort++) {
            promise = 40;
            Keys x = told("u2;b0;" + "arcbd".charAt(sort) + "0;");
            due("kind", x.kind(1), sort + 1);
            due("no SET", x.kind(2), BAD);
            due("no SET", x.kind(-1), BAD);
            promise = 41;
            for (int kind = 0; kind <= 5; kind++) {
                boolean is = such[sort].indexOf('0' + kind) >= 0;
                due("as " + kind, x.as(1, kind), is ? 1 : KIND);
                due("status", x.status(), is ? 0 : 3);
            }
            due("kind 6", x.as(1, 6), BAD);
            due("kind -1", x.as(1, -1), BAD);
            due("no SET", x.as(2, 0), BAD);
        }
    }

    static void dueAsk(Keys x, int one, int what, int answer, int... trace) {
        promise = 42;
        due("ask(" + one + ", " + what + ")", x.ask(one, what), answer);
        promise = 43;
        for (int i = 0; i < trace.length; i++) {
            due("trace " + i, x.trace(i), trace[i]);
        }
        due("behind the trace", x.trace(trace.length), NONE);
    }

    static void asks() {
        Keys x = told("u6;d9;a7,9;r4,5,6;c8;");
        dueAsk(x, 0, 0, -198, 14, 13, 10);
        dueAsk(x, 0, 1, 198, 23, 20, 14, 13, 10);
        dueAsk(x, 1, 0, 2 + 1 + 7, 11, 10, 21, 20);
        dueAsk(x, 1, 1, 1 + 7, 21, 20);
        dueAsk(x, 2, 0, -(3 + 2 * (2 + 4)), 12, 11, 10, 24, 21, 20);
        dueAsk(x, 2, 1, 2 * (2 + 4), 24, 21, 20);
        dueAsk(x, 3, 0, 1 + 3 + 8 - 1000, 11, 10, 22, 21, 20);
        dueAsk(x, 3, 1, 3 + 8 - 1000, 22, 21, 20);
        promise = 42;
        due("no SET", x.ask(4, 0), BAD);
        due("what 2", x.ask(0, 2), BAD);
        due("what -1", x.ask(0, -1), BAD);
        due("refused: the trace stays", x.trace(0), 22);
        promise = 43;
        due("-1", x.trace(-1), NONE);
        due("16", x.trace(16), NONE);
        due("far", x.trace(MAX), NONE);
        x.take(3, 8);
        dueAsk(x, 3, 1, 3 - 1000, 22, 21, 20);
        Keys below = told("u6;a1;b9,10;");
        dueAsk(below, 1, 0, -98, 13, 10);
        dueAsk(below, 1, 1, 1 + 98, 23, 20, 13, 10);
    }

    static void counts() {
        promise = 44;
        Keys x = told("u4;a1,6,7,12;b1;");
        x.row(2, 0, 0);
        x.row(5, 1, 3);
        x.add(1, 3);
        feed(x, "u2;");
        due("rows", x.count(0), 2);
        due("sets", x.count(1), 2);
        due("bits", x.count(2), 4);
        due("keys", x.count(3), 6);
        due("nodes", x.count(4), 8 + 3);
        due("acts", x.count(5), 1);
        due("bytes", x.count(6), 3);
        due("7", x.count(7), BAD);
        due("-1", x.count(-1), BAD);
    }

    static void statuses() {
        promise = 45;
        Keys x = told("u4;a1;");
        due("at first", x.status(), 0);
        x.drop(0);
        due("NULL", x.status(), 1);
        x.drop(8);
        due("BAD leaves it", x.status(), 1);
        x.add(0, 1);
        x.add(0, 2);
        x.undo();
        x.feed(1);
        due("calls without a ROW leave it", x.status(), 1);
        x.row(0, 0, 2);
        due("none", x.status(), 0);
        x.set(0, 2, 0);
        due("PLACE", x.status(), 2);
        x.set(0, 0, 1);
        due("none", x.status(), 0);
        x.as(0, 4);
        due("KIND", x.status(), 3);
        x.as(0, 6);
        due("BAD leaves it", x.status(), 3);
        x.as(0, 1);
        due("none", x.status(), 0);
        x.row(0, 0, -1);
        due("SIZE", x.status(), 4);
        x.row(1, 1, 1);
        x.copy(0, 0, 1, 0, 0);
        due("STORE", x.status(), 5);
        x.copy(0, 0, 0, 1, 1);
        due("none", x.status(), 0);
        x.gather(0, 2, 0, 1);
        due("gather: NULL", x.status(), 1);
        x.gather(0, 0, 0, 1);
        due("gather: none", x.status(), 0);
        x.tell(0, 0, 0, 3);
        due("tell: PLACE", x.status(), 2);
        x.tell(0, 0, 8, 3);
        due("BAD leaves it", x.status(), 2);
        x.tell(0, 0, 0, 0);
        due("tell: none", x.status(), 0);
        x.drop(7);
        x.drop(0);
        due("drop: none", x.status(), 0);
    }
}
