import java.io.IOException;
import java.nio.file.Files;
import java.nio.file.Path;
import java.util.ArrayList;
import java.util.List;

/** What the boundary tests share: each is named by its promise and by the words of the document that it is about. */
abstract class Edges {
    static final int NONE = -1000000, BAD = -1000001, STATE = -1000002, FULL = -1000003;
    static final int NULL = -1000011, PLACE = -1000012, KIND = -1000013, SIZE = -1000014, STORE = -1000015;
    static final int MIN = Integer.MIN_VALUE, MAX = Integer.MAX_VALUE;
    private static final int PROMISES = 45;

    private static final List<String> wrong = new ArrayList<>();
    private static final boolean[] tested = new boolean[PROMISES + 1];
    private static final String document = document();
    private static int tests = 0;
    private static int answers = 0;
    private static String at = "";

    interface Call {
        long on(Keys x);
    }

    interface CallWith {
        long on(Keys x, int v);
    }

    interface State {
        Keys made();
    }

    /** A test of its own: of a promise, of words that stand in it or ahead of the promises. */
    static void test(int promise, String words, Runnable body) {
        at = "promise " + promise + ", \"" + words + "\"";
        int before = answers;
        if (!says(promise, words)) {
            fail("the document has no such words");
        }
        body.run();
        if (answers == before) {
            fail("nothing was looked at");
        }
        tested[promise] = true;
        tests++;
    }

    static void due(long got, long want) {
        answers++;
        if (got != want) {
            fail(Keys.latest() + " answered " + got + ", due is " + want);
        }
    }

    static void fail(String what) {
        wrong.add(at + ": " + what);
    }

    /** Ends the run: 1, if something was wrong, or a promise has no test. */
    static void end() {
        at = "all";
        for (int promise = 1; promise <= PROMISES; promise++) {
            if (!tested[promise]) {
                fail("promise " + promise + " has no boundary test");
            }
        }
        for (int i = 0; i < wrong.size() && i < 60; i++) {
            System.out.println(wrong.get(i));
        }
        System.out.println(tests + " boundary tests, " + answers + " answers, " + wrong.size() + " wrong");
        if (!wrong.isEmpty()) {
            System.exit(1);
        }
    }

    // ---- states

    static Keys fresh() {
        return new Keys();
    }

    static int feed(Keys x, String text) {
        int last = x.count(6);
        for (int i = 0; i < text.length(); i++) {
            last = x.feed(text.charAt(i));
        }
        return last;
    }

    static int read(Keys x, String text) {
        feed(x, text);
        return x.shelf();
    }

    /** A new object with the SHELF that a text tells. */
    static Keys told(String text) {
        Keys x = fresh();
        if (read(x, text) < 1) {
            fail("\"" + text + "\" is not read");
        }
        return x;
    }

    /**
     * An object that has some of all: ROWS of each LANE (5, 6 and 7 are missing), bytes on the tape, a FAULT, SETS
     * of 6 bits (0 has 3, 4 and 5; 1 has all KEYS; 2 is EMPTY; 3 is a deep one), 24 ACTS and more that were
     * forgotten, two IMAGES, a TRACE.
     */
    static Keys busy() {
        Keys x = untaped();
        feed(x, "u2;c3;");
        return x;
    }

    /** As a busy one, but with nothing on the tape. */
    static Keys untaped() {
        Keys x = fresh();
        read(x, "u1");
        read(x, "u3;d1,6;r0;");
        x.image(1);
        read(x, "u6;a0,31,32,63;r5,40;c7;d9,20,33;");
        for (int i = 0; i < 20; i++) {
            x.flip(i % 4, i, i + 20);
        }
        x.image(0);
        x.join(2, 0, 0, 0);
        x.flip(0, 3, 5);
        x.join(3, 1, 1, 1);
        x.flip(1, 0, 63);
        x.shift(2, 9999);
        fillRows(x);
        x.ask(0, 0);
        x.as(0, 0);
        return x;
    }

    private static void fillRows(Keys x) {
        x.row(0, 2, 4);
        x.set(0, 0, 3);
        x.set(0, 1, 64);
        x.set(0, 2, -1);
        x.set(0, 3, 6);
        x.row(1, 1, 3);
        x.set(1, 0, 1);
        x.set(1, 2, 63);
        x.row(2, 0, 2);
        x.set(2, 1, 9);
        x.row(3, 2, 0);
        x.row(4, 2, 40);
        x.set(4, 1, 11);
    }

    /** As a busy one, but with 110 bytes on the tape. */
    static Keys overfed() {
        Keys x = busy();
        for (int i = x.count(6); i < 110; i++) {
            x.feed(i);
        }
        return x;
    }

    // ---- what a call must leave as it is

    /** The call answers so, and changes nothing but status(), whatever that told ahead of it. */
    static void still(State state, Call call, long want) {
        for (int found = 0; found <= 1; found++) {
            Keys x = begun(state, found == 1);
            int before = x.status();
            due(call.on(x), want);
            String told = Keys.latest();
            due(x.status(), isFinding(want) ? -1000010 - want : before);
            for (Looks look : Looks.values()) {
                lookAgain(state, call, look, found == 1, told);
            }
        }
    }

    private static void lookAgain(State state, Call call, Looks look, boolean found, String told) {
        Keys x = begun(state, found);
        call.on(x);
        List<Long> behind = look.at(x);
        List<Long> ahead = look.at(begun(state, found));
        answers++;
        if (!behind.equals(ahead)) {
            fail(told + " has changed " + look);
        }
    }

    /** With a FINDING ahead (SIZE, 4), or as it was made. */
    private static Keys begun(State state, boolean found) {
        Keys x = state.made();
        if (found) {
            x.row(0, 0, -1);
        }
        return x;
    }

    private static boolean isFinding(long answer) {
        return answer >= STORE && answer <= NULL;
    }

    static void stillBusy(Call call, long want) {
        still(Edges::busy, call, want);
    }

    /** BAD without a SHELF. */
    static void noShelf(Call call) {
        still(Edges::fresh, call, BAD);
    }

    /** A number from low to high is taken of a busy object; what lies beyond is BAD and changes nothing. */
    static void span(int low, int high, CallWith call) {
        for (int v : new int[] {low, high}) {
            answers++;
            if (call.on(busy(), v) == BAD) {
                fail(Keys.latest() + " is not taken");
            }
        }
        for (int v : new int[] {low - 1, high + 1, MIN, MAX}) {
            stillBusy(x -> call.on(x, v), BAD);
        }
    }

    /** The KEYS that a SET has, one by one. */
    static void dueKeys(Keys x, int set, int... want) {
        due(x.keys(set), want.length);
        for (int k = 0; k < want.length; k++) {
            due(x.nth(set, k), want[k]);
        }
    }

    /** The ITEMS of a ROW, that are KEYS: each is gathered into SET 0, and that is undone. */
    static void dueItems(Keys x, int row, int... want) {
        for (int i = 0; i < want.length; i++) {
            int more = 1 - x.contains(0, want[i]);
            int before = x.keys(0);
            int now = x.gather(0, row, i, 1);
            due(now, before + more);
            due(x.contains(0, want[i]), 1);
            if (now >= 0) {
                x.undo();
            }
        }
    }

    // ---- the document

    private static String document() {
        Path path = Path.of("../shared/DOC.md");
        try {
            return Files.exists(path) ? plain(Files.readString(path)) : "";
        } catch (IOException e) {
            return "";
        }
    }

    private static String plain(String text) {
        return text.replaceAll("\\s+", " ");
    }

    private static boolean says(int promise, String words) {
        if (document.isEmpty()) {
            return true;
        }
        int terms = document.indexOf("## Terms");
        int first = document.indexOf("## Promise 1:");
        int from = document.indexOf("## Promise " + promise + ":");
        int to = document.indexOf("## ", from + 3);
        if (terms < 0 || first < terms || from < 0 || to < from) {
            return false;
        }
        return document.substring(from, to).contains(words) || document.substring(terms, first).contains(words);
    }
}
