import java.math.BigInteger;
import java.util.ArrayDeque;
import java.util.ArrayList;
import java.util.Arrays;
import java.util.Deque;
import java.util.List;
import java.util.Random;
import java.util.TreeSet;

/**
 * Long runs of drawn calls, answered by the class and by a model that is written from the document's words in
 * another way: sorted sets of numbers, NODES as the document defines them, fractions as BigIntegers, floats.
 */
public final class ModelTest {
    static final int NONE = -1000000, BAD = -1000001, STATE = -1000002, FULL = -1000003;
    static final int MOST_CALLS_A_STEP = 10, MOST_CALLS_A_TEXT = 140;
    static int wrong = 0;

    public static void main(String[] args) {
        allSmallSets();
        for (int seed = 0; seed < 1500; seed++) {
            run(seed);
        }
        for (int seed = 0; seed < 4000; seed++) {
            texts(seed);
        }
        System.out.println(wrong == 0 ? "the model answers the same" : wrong + " answers differ from the model's");
        if (wrong != 0) {
            System.exit(1);
        }
    }

    static void same(String where, String call, long got, long want) {
        if (got != want) {
            wrong++;
            if (wrong <= 40) {
                System.out.println(where + ": " + call + " answered " + got + ", the model " + want);
            }
        }
    }

    // ---- every SET of 2, 3 and 4 bits

    static void allSmallSets() {
        for (int bits = 2; bits <= 4; bits++) {
            for (int some = 0; some < 1 << (1 << bits); some++) {
                Keys x = new Keys();
                feed(x, "u" + bits + ";a0;");
                x.shelf();
                for (int key = 0; key < 1 << bits; key++) {
                    if ((some >> key & 1) != (key == 0 ? 1 : 0)) {
                        x.flip(0, key, key);
                    }
                }
                smallSet(x, bits, some);
            }
        }
    }

    static void smallSet(Keys x, int bits, int some) {
        String where = "bits " + bits + ", set " + some;
        TreeSet<Integer> keys = new TreeSet<>();
        for (int key = 0; key < 1 << bits; key++) {
            if ((some >> key & 1) == 1) {
                keys.add(key);
            }
        }
        Node root = new Node(bits, keys);
        same(where, "word", x.word(0, 0, 0), some);
        same(where, "nodes", x.tree(0, 0), root.nodes());
        same(where, "depth", x.tree(0, 1), root.depth());
        for (int key = 0; key < 1 << bits; key++) {
            same(where, "steps " + key, x.steps(0, key), root.steps(key));
        }
    }

    // ---- drawn texts

    static void texts(int seed) {
        Random random = new Random(seed);
        Keys x = new Keys();
        Model m = new Model();
        for (int i = 0; i < 8 && x.left() >= MOST_CALLS_A_TEXT; i++) {
            String text = text(random);
            for (int k = 0; k < text.length(); k++) {
                same("text " + seed, "feed", x.feed(text.charAt(k)), m.feed(text.charAt(k)));
            }
            String where = "text " + seed + " \"" + text + "\"";
            same(where, "shelf", x.shelf(), m.shelf());
            same(where, "fault", x.fault(), m.fault);
            for (int what = 0; what <= 6; what++) {
                same(where, "count " + what, x.count(what), m.count(what));
            }
            for (int one = 0; one < 5; one++) {
                same(where, "kind " + one, x.kind(one), m.kind(one));
                same(where, "keys " + one, x.keys(one), m.keys(one));
            }
        }
    }

    static String text(Random random) {
        StringBuilder s = new StringBuilder(goodText(random));
        int harms = random.nextInt(3);
        for (int i = 0; i < harms && s.length() > 0; i++) {
            int at = random.nextInt(s.length());
            String letters = "u,;abcdr019 xZ\n" + (char) 200;
            char letter = letters.charAt(random.nextInt(letters.length()));
            switch (random.nextInt(4)) {
                case 0 -> s.deleteCharAt(at);
                case 1 -> s.insert(at, letter);
                case 2 -> s.setCharAt(at, letter);
                default -> s.setLength(at);
            }
        }
        return s.toString();
    }

    static String goodText(Random random) {
        int bits = 1 + random.nextInt(11);
        int top = Math.min(100, 1 << bits);
        StringBuilder s = new StringBuilder("u" + bits + ";");
        int sets = 1 + random.nextInt(5);
        for (int i = 0; i < sets; i++) {
            s.append("arcbd".charAt(random.nextInt(5)));
            int keys = 1 + random.nextInt(5);
            for (int k = 0; k < keys; k++) {
                int key = random.nextInt(40) == 0 ? random.nextInt(100) : random.nextInt(top);
                s.append(k == 0 ? "" : ",").append(key < 10 && random.nextInt(6) == 0 ? "0" : "").append(key);
            }
            s.append(';');
        }
        return s.toString();
    }

    // ---- drawn calls

    static final String[] CALLS = {"row", "set", "copy", "drop", "feed", "shelf", "fault", "undo", "add", "take",
        "flip", "join", "shift", "gather", "contains", "keys", "end", "next", "beside", "steps", "tree", "cluster",
        "summary", "word", "bits", "share", "rank", "nth", "near", "tell", "chase", "meet", "cover", "gap",
        "likely", "drawn", "image", "restore", "kind", "as", "ask", "trace", "count", "status"};

    static void run(int seed) {
        Random random = new Random(1000000L + seed);
        Keys x = new Keys();
        Model m = new Model();
        if (random.nextInt(10) != 0) {
            String text = goodText(random);
            feed(x, text);
            for (int i = 0; i < text.length(); i++) {
                m.feed(text.charAt(i));
            }
            same("run " + seed, "shelf", x.shelf(), m.shelf());
        }
        boolean wild = random.nextInt(20) == 0;
        while (x.left() >= MOST_CALLS_A_STEP) {
            String call = CALLS[random.nextInt(CALLS.length)];
            if (random.nextInt(4) == 0) {
                call = CALLS[8 + random.nextInt(6)];
            }
            if ((call.equals("shelf") || call.equals("restore")) && random.nextInt(8) != 0) {
                continue;
            }
            step("run " + seed + ", " + x.left() + " calls left", x, m, call, wild, random);
        }
    }

    static int arg(Random random, boolean wild, int low, int high) {
        if (wild && random.nextInt(3) == 0) {
            int[] odd = {Integer.MIN_VALUE, Integer.MAX_VALUE, -1, 0, 1, 1024, 32, 512, Integer.MAX_VALUE - 31};
            return odd[random.nextInt(odd.length)];
        }
        int at = random.nextInt(30);
        return at == 0 ? low - 1 : at == 1 ? high + 1 : at == 2 ? low : at == 3 ? high
            : low + random.nextInt(high - low + 1);
    }

    static void step(String where, Keys x, Model m, String call, boolean wild, Random random) {
        int top = m.top() == 0 ? 16 : m.top();
        int s = arg(random, wild, 0, Math.max(0, m.sets.size() - 1));
        int s2 = arg(random, wild, 0, Math.max(0, m.sets.size() - 1));
        int s3 = arg(random, wild, 0, Math.max(0, m.sets.size() - 1));
        int key = arg(random, wild, 0, top - 1);
        int key2 = arg(random, wild, 0, top - 1);
        int row = arg(random, wild, 0, 7);
        int two = arg(random, wild, 0, 1);
        int three = arg(random, wild, 0, 2);
        int small = arg(random, wild, 0, 12);
        int small2 = arg(random, wild, 0, 12);
        switch (call) {
            case "row" -> {
                int n = arg(random, wild, 0, 40);
                same(where, "row(" + row + "," + three + "," + n + ")", x.row(row, three, n), m.row(row, three, n));
            }
            case "set" -> {
                int v = random.nextInt(3) == 0 ? random.nextInt() : key;
                same(where, "set(" + row + "," + small + "," + v + ")", x.set(row, small, v), m.set(row, small, v));
            }
            case "copy" -> {
                int b = random.nextInt(3) == 0 ? row : arg(random, wild, 0, 7);
                int n = arg(random, wild, 0, 8);
                same(where, "copy", x.copy(row, small, b, small2, n), m.copy(row, small, b, small2, n));
            }
            case "drop" -> {
                if (random.nextInt(4) == 0) {
                    same(where, "drop(" + row + ")", x.drop(row), m.drop(row));
                }
            }
            case "feed" -> {
                int letter = arg(random, wild, 0, 255);
                same(where, "feed(" + letter + ")", x.feed(letter), m.feed(letter));
            }
            case "shelf" -> same(where, "shelf()", x.shelf(), m.shelf());
            case "fault" -> same(where, "fault()", x.fault(), m.fault);
            case "undo" -> same(where, "undo()", x.undo(), m.undo());
            case "add" -> same(where, "add(" + s + "," + key + ")", x.add(s, key), m.add(s, key));
            case "take" -> {
                int k = m.isSet(s) && random.nextBoolean() && m.isKey(key) ? m.near(s, key) : key;
                same(where, "take(" + s + "," + k + ")", x.take(s, k), m.take(s, k));
            }
            case "flip" -> {
                int b = random.nextInt(3) == 0 ? key2 : key + random.nextInt(9);
                same(where, "flip(" + s + "," + key + "," + b + ")", x.flip(s, key, b), m.flip(s, key, b));
            }
            case "join" -> {
                int how = arg(random, wild, 0, 3);
                same(where, "join(" + how + "," + s + "," + s2 + "," + s3 + ")", x.join(how, s, s2, s3),
                    m.join(how, s, s2, s3));
            }
            case "shift" -> {
                int v = random.nextInt(12) == 0 ? arg(random, wild, -9999, 9999) : arg(random, wild, -40, 40);
                same(where, "shift(" + s + "," + v + ")", x.shift(s, v), m.shift(s, v));
            }
            case "gather" -> {
                int n = arg(random, wild, 1, 40);
                n = random.nextInt(3) == 0 ? n : 1 + random.nextInt(5);
                same(where, "gather(" + s + "," + row + "," + small + "," + n + ")", x.gather(s, row, small, n),
                    m.gather(s, row, small, n));
            }
            case "contains" -> same(where, "contains(" + s + "," + key + ")", x.contains(s, key), m.contains(s, key));
            case "keys" -> same(where, "keys(" + s + ")", x.keys(s), m.keys(s));
            case "end" -> same(where, "end(" + s + "," + two + ")", x.end(s, two), m.end(s, two));
            case "next" -> same(where, "next(" + s + "," + key + ")", x.next(s, key), m.next(s, key));
            case "beside" -> same(where, "beside(" + s + "," + key + "," + two + ")", x.beside(s, key, two),
                m.beside(s, key, two));
            case "steps" -> same(where, "steps(" + s + "," + key + ")", x.steps(s, key), m.steps(s, key));
            case "tree" -> same(where, "tree(" + s + "," + two + ")", x.tree(s, two), m.tree(s, two));
            case "cluster" -> {
                int h = arg(random, wild, 0, (1 << m.bits - m.bits / 2) - 1);
                same(where, "cluster(" + s + "," + h + "," + three + ")", x.cluster(s, h, three),
                    m.cluster(s, h, three));
            }
            case "summary" -> same(where, "summary(" + s + "," + three + ")", x.summary(s, three),
                m.summary(s, three));
            case "word" -> {
                int i = arg(random, wild, 0, Math.max(0, top / 32 - 1));
                i = two == 1 && random.nextBoolean() ? 0 : i;
                same(where, "word(" + s + "," + two + "," + i + ")", x.word(s, two, i), m.word(s, two, i));
            }
            case "bits" -> {
                int i = arg(random, wild, 0, Math.max(0, top / 32 - 1));
                i = two == 1 && random.nextBoolean() ? 0 : i;
                same(where, "bits(" + s + "," + two + "," + i + "," + three + ")", x.bits(s, two, i, three),
                    m.bits(s, two, i, three));
            }
            case "share" -> same(where, "share(" + s + "," + three + ")", x.share(s, three), m.share(s, three));
            case "rank" -> same(where, "rank(" + s + "," + key + ")", x.rank(s, key), m.rank(s, key));
            case "nth" -> {
                int k = m.isSet(s) && random.nextBoolean() ? arg(random, wild, 0, m.sets.get(s).size()) : key;
                same(where, "nth(" + s + "," + k + ")", x.nth(s, k), m.nth(s, k));
            }
            case "near" -> same(where, "near(" + s + "," + key + ")", x.near(s, key), m.near(s, key));
            case "tell" -> same(where, "tell(" + s + "," + key + "," + row + "," + small + ")",
                x.tell(s, key, row, small), m.tell(s, key, row, small));
            case "chase" -> {
                int n = arg(random, wild, 0, 60);
                same(where, "chase(" + s + "," + s2 + "," + key + "," + n + ")", x.chase(s, s2, key, n),
                    m.chase(s, s2, key, n));
            }
            case "meet" -> same(where, "meet(" + key + ")", x.meet(key), m.meet(key));
            case "cover" -> {
                int b = random.nextInt(3) == 0 ? key2 : key + random.nextInt(4);
                same(where, "cover(" + key + "," + b + "," + two + ")", x.cover(key, b, two), m.cover(key, b, two));
            }
            case "gap" -> same(where, "gap(" + s + "," + two + ")", x.gap(s, two), m.gap(s, two));
            case "likely" -> {
                int p = arg(random, wild, 0, 10);
                int o = m.isSet(s) && m.isKey(key2) && random.nextInt(3) != 0 ? m.near(s, key2) : key2;
                same(where, "likely(" + s + "," + key + "," + o + "," + p + "," + two + ")",
                    x.likely(s, key, o, p, two), m.likely(s, key, o, p, two));
            }
            case "drawn" -> {
                int n = arg(random, wild, 0, 200);
                int seed = arg(random, wild, 1, 999999);
                same(where, "drawn(" + n + "," + seed + "," + two + ")", x.drawn(n, seed, two),
                    m.drawn(n, seed, two));
            }
            case "image" -> same(where, "image(" + two + ")", x.image(two), m.image(two));
            case "restore" -> same(where, "restore(" + two + ")", x.restore(two), m.restore(two));
            case "kind" -> same(where, "kind(" + s + ")", x.kind(s), m.kind(s));
            case "as" -> {
                int kind = arg(random, wild, 0, 5);
                same(where, "as(" + s + "," + kind + ")", x.as(s, kind), m.as(s, kind));
            }
            case "ask" -> {
                same(where, "ask(" + s + "," + two + ")", x.ask(s, two), m.ask(s, two));
                for (int i = 0; i < 8; i++) {
                    same(where, "trace(" + i + ") behind ask(" + s + "," + two + ")", x.trace(i), m.trace(i));
                }
            }
            case "trace" -> same(where, "trace(" + small + ")", x.trace(small), m.trace(small));
            case "count" -> {
                int what = arg(random, wild, 0, 6);
                same(where, "count(" + what + ")", x.count(what), m.count(what));
            }
            default -> same(where, "status()", x.status(), m.status);
        }
        same(where, "status() behind " + call, x.status(), m.status);
    }

    static void feed(Keys x, String text) {
        for (int i = 0; i < text.length(); i++) {
            x.feed(text.charAt(i));
        }
    }

    // ---- a NODE, as the document defines it

    static final class Node {
        final int bits;
        final TreeSet<Integer> numbers;
        final List<Node> clusters = new ArrayList<>();
        Node summary = null;

        Node(int bits, TreeSet<Integer> numbers) {
            this.bits = bits;
            this.numbers = numbers;
            if (bits < 2) {
                return;
            }
            int l = bits / 2;
            int h = bits - l;
            TreeSet<Integer> full = new TreeSet<>();
            for (int x = 0; x < 1 << h; x++) {
                TreeSet<Integer> low = new TreeSet<>();
                for (int number : numbers) {
                    if (number != numbers.first() && number / (1 << l) == x) {
                        low.add(number % (1 << l));
                    }
                }
                clusters.add(low.isEmpty() ? null : new Node(l, low));
                if (!low.isEmpty()) {
                    full.add(x);
                }
            }
            summary = full.isEmpty() ? null : new Node(h, full);
        }

        int nodes() {
            if (numbers.isEmpty()) {
                return 0;
            }
            int sum = 1 + (summary == null ? 0 : summary.nodes());
            for (Node each : clusters) {
                sum += each == null ? 0 : each.nodes();
            }
            return sum;
        }

        int depth() {
            if (numbers.isEmpty()) {
                return 0;
            }
            int most = summary == null ? 0 : summary.depth();
            for (Node each : clusters) {
                most = Math.max(most, each == null ? 0 : each.depth());
            }
            return 1 + most;
        }

        int steps(int number) {
            if (numbers.isEmpty() || bits == 1 || number < numbers.first()) {
                return 1;
            }
            int size = 1 << bits / 2;
            Node cluster = clusters.get(number / size);
            if (cluster != null && cluster.numbers.last() > number % size) {
                return 1 + cluster.steps(number % size);
            }
            return summary == null ? 2 : 1 + summary.steps(number / size);
        }
    }

    // ---- the model

    static final class Model {
        final int[][] rows = new int[8][];
        final int[] lanes = new int[8];
        final List<Integer> tape = new ArrayList<>();
        int fault = 0;
        int status = 0;
        int bits = 0;
        List<TreeSet<Integer>> sets = new ArrayList<>();
        List<Integer> kinds = new ArrayList<>();
        final Deque<Object[]> acts = new ArrayDeque<>();
        final Object[] images = new Object[2];
        List<Integer> trace = new ArrayList<>();

        int top() {
            return bits == 0 ? 0 : 1 << bits;
        }

        boolean isSet(int s) {
            return s >= 0 && s < sets.size();
        }

        boolean isKey(int key) {
            return key >= 0 && key < top();
        }

        boolean isRow(int row) {
            return row >= 0 && row < 8;
        }

        int found(int finding) {
            status = finding;
            return -1000010 - finding;
        }

        int fine(int answer) {
            status = 0;
            return answer;
        }

        int row(int row, int lane, int n) {
            if (!isRow(row) || lane < 0 || lane > 2 || n > 40) {
                return BAD;
            }
            if (n < 0) {
                return found(4);
            }
            rows[row] = new int[n];
            lanes[row] = lane;
            return fine(n);
        }

        int narrow(int lane, int v) {
            return lane == 2 ? v : lane == 1 ? v << 16 >> 16 : v << 24 >> 24;
        }

        int set(int row, int i, int v) {
            if (!isRow(row)) {
                return BAD;
            }
            if (rows[row] == null) {
                return found(1);
            }
            if (i < 0 || i >= rows[row].length) {
                return found(2);
            }
            rows[row][i] = narrow(lanes[row], v);
            return fine(rows[row][i]);
        }

        int copy(int a, int i, int b, int j, int n) {
            if (!isRow(a) || !isRow(b)) {
                return BAD;
            }
            if (rows[a] == null || rows[b] == null) {
                return found(1);
            }
            if (lanes[a] != lanes[b]) {
                return found(5);
            }
            if (i < 0 || j < 0 || n < 0 || (long) i + n > rows[a].length || (long) j + n > rows[b].length) {
                return found(2);
            }
            int[] old = rows[a].clone();
            for (int k = 0; k < n; k++) {
                rows[b][j + k] = old[i + k];
            }
            return fine(n);
        }

        int drop(int row) {
            if (!isRow(row)) {
                return BAD;
            }
            if (rows[row] == null) {
                return found(1);
            }
            int n = rows[row].length;
            rows[row] = null;
            return fine(n);
        }

        int feed(int letter) {
            if (letter < 0 || letter > 255) {
                return BAD;
            }
            if (tape.size() == 110) {
                return FULL;
            }
            tape.add(letter);
            return tape.size();
        }

        int shelf() {
            StringBuilder text = new StringBuilder();
            for (int each : tape) {
                text.append((char) each);
            }
            tape.clear();
            List<String> tokens = new ArrayList<>();
            List<Integer> places = new ArrayList<>();
            for (int i = 0; i < text.length();) {
                int to = i;
                while (to < text.length() && text.charAt(to) >= '0' && text.charAt(to) <= '9') {
                    to++;
                }
                to = Math.max(to, i + 1);
                tokens.add(text.substring(i, to));
                places.add(i);
                i = to;
            }
            tokens.add("");
            places.add(text.length());
            String state = "u";
            int newBits = 0;
            List<TreeSet<Integer>> newSets = new ArrayList<>();
            List<Integer> newKinds = new ArrayList<>();
            for (int i = 0; i < tokens.size(); i++) {
                String t = tokens.get(i);
                boolean number = t.matches("[0-9][0-9]?");
                int bad = 0;
                switch (state) {
                    case "u" -> {
                        bad = t.equals("u") ? 0 : 1;
                        state = "bits";
                    }
                    case "bits" -> {
                        bad = !number ? 1 : Integer.parseInt(t) < 2 || Integer.parseInt(t) > 10 ? 2 : 0;
                        newBits = bad == 0 ? Integer.parseInt(t) : 0;
                        state = "behind bits";
                    }
                    case "behind bits" -> {
                        bad = t.equals(";") ? 0 : 1;
                        state = "set";
                    }
                    case "set", "set or end" -> {
                        if (t.isEmpty() && state.equals("set or end")) {
                            break;
                        }
                        bad = !t.matches("[arcbd]") ? 1 : newSets.size() == 4 ? 3 : 0;
                        newSets.add(new TreeSet<>());
                        newKinds.add(1 + "arcbd".indexOf(t));
                        state = "key";
                    }
                    case "key" -> {
                        bad = !number ? 1 : Integer.parseInt(t) >= 1 << newBits ? 2 : 0;
                        if (bad == 0) {
                            newSets.get(newSets.size() - 1).add(Integer.parseInt(t));
                        }
                        state = "behind key";
                    }
                    default -> {
                        bad = t.equals(",") || t.equals(";") ? 0 : 1;
                        state = t.equals(",") ? "key" : "set or end";
                    }
                }
                if (bad != 0) {
                    fault = bad;
                    return -1000100 - places.get(i);
                }
            }
            bits = newBits;
            sets = newSets;
            kinds = newKinds;
            acts.clear();
            return sets.size();
        }

        int undo() {
            if (acts.isEmpty()) {
                return STATE;
            }
            Object[] latest = acts.removeLast();
            @SuppressWarnings("unchecked")
            TreeSet<Integer> old = (TreeSet<Integer>) latest[1];
            sets.set((Integer) latest[0], old);
            return acts.size();
        }

        int act(int s, TreeSet<Integer> becomes) {
            acts.addLast(new Object[] {s, sets.get(s)});
            if (acts.size() > 24) {
                acts.removeFirst();
            }
            sets.set(s, becomes);
            return becomes.size();
        }

        int add(int s, int key) {
            if (!isSet(s) || !isKey(key)) {
                return BAD;
            }
            if (sets.get(s).contains(key)) {
                return STATE;
            }
            TreeSet<Integer> other = new TreeSet<>(sets.get(s));
            other.add(key);
            return act(s, other);
        }

        int take(int s, int key) {
            if (!isSet(s) || !isKey(key)) {
                return BAD;
            }
            if (!sets.get(s).contains(key)) {
                return STATE;
            }
            TreeSet<Integer> other = new TreeSet<>(sets.get(s));
            other.remove(key);
            return act(s, other);
        }

        int flip(int s, int a, int b) {
            if (!isSet(s) || !isKey(a) || !isKey(b) || a > b) {
                return BAD;
            }
            TreeSet<Integer> other = new TreeSet<>(sets.get(s));
            for (int key = a; key <= b; key++) {
                if (!other.remove(key)) {
                    other.add(key);
                }
            }
            return act(s, other);
        }

        int join(int how, int a, int b, int c) {
            if (how < 0 || how > 3 || !isSet(a) || !isSet(b) || !isSet(c)) {
                return BAD;
            }
            TreeSet<Integer> other = new TreeSet<>();
            for (int key = 0; key < top(); key++) {
                boolean inA = sets.get(a).contains(key);
                boolean inB = sets.get(b).contains(key);
                boolean comes = how == 0 ? inA && inB : how == 1 ? inA || inB : how == 2 ? inA != inB : inA && !inB;
                if (comes) {
                    other.add(key);
                }
            }
            return act(c, other);
        }

        int shift(int s, int v) {
            if (!isSet(s) || v < -9999 || v > 9999) {
                return BAD;
            }
            TreeSet<Integer> other = new TreeSet<>();
            for (int key : sets.get(s)) {
                if (isKey(key + v)) {
                    other.add(key + v);
                }
            }
            return act(s, other);
        }

        int gather(int s, int row, int i, int n) {
            if (!isSet(s) || !isRow(row) || n < 1 || n > 40) {
                return BAD;
            }
            if (rows[row] == null) {
                return found(1);
            }
            if (i < 0 || (long) i + n > rows[row].length) {
                return found(2);
            }
            TreeSet<Integer> other = new TreeSet<>(sets.get(s));
            for (int k = i; k < i + n; k++) {
                if (!isKey(rows[row][k])) {
                    return found(2);
                }
                other.add(rows[row][k]);
            }
            return fine(act(s, other));
        }

        int contains(int s, int key) {
            return !isSet(s) || !isKey(key) ? BAD : sets.get(s).contains(key) ? 1 : 0;
        }

        int keys(int s) {
            return !isSet(s) ? BAD : sets.get(s).size();
        }

        static int or(Integer one) {
            return one == null ? NONE : one;
        }

        int end(int s, int what) {
            if (!isSet(s) || what < 0 || what > 1) {
                return BAD;
            }
            TreeSet<Integer> one = sets.get(s);
            return one.isEmpty() ? NONE : what == 0 ? one.first() : one.last();
        }

        int next(int s, int key) {
            if (!isSet(s) || !isKey(key)) {
                return BAD;
            }
            TreeSet<Integer> one = sets.get(s);
            int above = or(one.higher(key));
            int below = or(one.lower(key));
            switch (kinds.get(s)) {
                case 1:
                    return above;
                case 2:
                    return above != NONE || one.isEmpty() ? above : one.first();
                case 3:
                    return one.contains(key) ? key : above;
                case 4:
                    return below;
                default:
                    return below != NONE || one.isEmpty() ? below : one.last();
            }
        }

        int beside(int s, int key, int what) {
            if (!isSet(s) || !isKey(key) || what < 0 || what > 1) {
                return BAD;
            }
            return or(what == 0 ? sets.get(s).higher(key) : sets.get(s).lower(key));
        }

        Node root(int s) {
            return new Node(bits, sets.get(s));
        }

        int steps(int s, int key) {
            return !isSet(s) || !isKey(key) ? BAD : root(s).steps(key);
        }

        int tree(int s, int what) {
            return !isSet(s) || what < 0 || what > 1 ? BAD : what == 0 ? root(s).nodes() : root(s).depth();
        }

        static int about(Node one, int what) {
            if (one == null) {
                return what == 2 ? 0 : NONE;
            }
            return what == 0 ? one.numbers.first() : what == 1 ? one.numbers.last() : one.nodes();
        }

        int cluster(int s, int x, int what) {
            if (!isSet(s) || what < 0 || what > 2 || x < 0 || x >= 1 << bits - bits / 2) {
                return BAD;
            }
            return about(root(s).clusters.get(x), what);
        }

        int summary(int s, int what) {
            return !isSet(s) || what < 0 || what > 2 ? BAD : about(root(s).summary, what);
        }

        boolean noWord(int s, int level, int i) {
            int words = Math.max(1, top() / 32);
            return !isSet(s) || level < 0 || level > 1 || i < 0 || level == 0 && i >= words
                || level == 1 && (words == 1 || i > 0);
        }

        int word(int s, int level, int i) {
            if (noWord(s, level, i)) {
                return BAD;
            }
            long word = 0;
            for (int key : sets.get(s)) {
                if (level == 0 && key / 32 == i) {
                    word |= 1L << key % 32;
                }
                if (level == 1) {
                    word |= 1L << key / 32;
                }
            }
            return (int) word;
        }

        int bits(int s, int level, int i, int what) {
            if (noWord(s, level, i) || what < 0 || what > 2) {
                return BAD;
            }
            int lead = NONE;
            int trail = NONE;
            int ones = 0;
            for (int b = 0; b < 32; b++) {
                if ((word(s, level, i) >> b & 1) == 1) {
                    lead = b;
                    trail = trail == NONE ? b : trail;
                    ones++;
                }
            }
            return what == 0 ? lead : what == 1 ? trail : ones;
        }

        int share(int s, int what) {
            if (!isSet(s) || what < 0 || what > 2) {
                return BAD;
            }
            TreeSet<Integer> one = sets.get(s);
            int sum = one.stream().mapToInt(Integer::intValue).sum();
            float mean = one.isEmpty() ? 0f : (float) sum / one.size();
            return what == 0 ? Float.floatToIntBits((float) one.size() / top())
                : what == 1 ? Float.floatToIntBits(mean) : (int) mean;
        }

        int rank(int s, int key) {
            return !isSet(s) || !isKey(key) ? BAD : sets.get(s).headSet(key).size();
        }

        int nth(int s, int k) {
            if (!isSet(s) || k < 0) {
                return BAD;
            }
            List<Integer> all = new ArrayList<>(sets.get(s));
            return k < all.size() ? all.get(k) : NONE;
        }

        int near(int s, int key) {
            if (!isSet(s) || !isKey(key)) {
                return BAD;
            }
            int best = NONE;
            for (int each : sets.get(s)) {
                if (best == NONE || Math.abs(each - key) < Math.abs(best - key)) {
                    best = each;
                }
            }
            return best;
        }

        int tell(int s, int key, int row, int i) {
            if (!isSet(s) || !isKey(key) || !isRow(row)) {
                return BAD;
            }
            if (rows[row] == null) {
                return found(1);
            }
            if (i < 0 || i > rows[row].length) {
                return found(2);
            }
            int told = 0;
            for (int each : sets.get(s).tailSet(key)) {
                if (i + told < rows[row].length) {
                    rows[row][i + told] = narrow(lanes[row], each);
                    told++;
                }
            }
            return fine(told);
        }

        int chase(int a, int b, int key, int n) {
            if (!isSet(a) || !isSet(b) || !isKey(key) || n < 0 || n > 60) {
                return BAD;
            }
            int at = key;
            for (int i = 0; i < n; i++) {
                at = next(i % 2 == 0 ? a : b, at);
                if (at == NONE) {
                    return NONE;
                }
            }
            return at;
        }

        int meet(int key) {
            if (!isKey(key)) {
                return BAD;
            }
            for (int each = key; each < top(); each++) {
                int all = each;
                if (sets.stream().allMatch(one -> one.contains(all))) {
                    return each;
                }
            }
            return NONE;
        }

        int cover(int a, int b, int what) {
            if (!isKey(a) || !isKey(b) || a > b || what < 0 || what > 1) {
                return BAD;
            }
            for (int many = 1; many <= sets.size(); many++) {
                for (int some = 0; some < 1 << sets.size(); some++) {
                    TreeSet<Integer> all = new TreeSet<>();
                    for (int i = 0; i < sets.size(); i++) {
                        if ((some >> i & 1) == 1) {
                            all.addAll(sets.get(i));
                        }
                    }
                    if (Integer.bitCount(some) == many && all.subSet(a, b + 1).size() == b - a + 1) {
                        return what == 0 ? many : some;
                    }
                }
            }
            return NONE;
        }

        int gap(int s, int what) {
            if (!isSet(s) || what < 0 || what > 1) {
                return BAD;
            }
            List<Integer> all = new ArrayList<>(sets.get(s));
            int lesser = NONE;
            int far = NONE;
            for (int i = 0; i + 1 < all.size(); i++) {
                if (far == NONE || all.get(i + 1) - all.get(i) > far) {
                    lesser = all.get(i);
                    far = all.get(i + 1) - all.get(i);
                }
            }
            return what == 0 ? lesser : far;
        }

        long likely(int s, int key, int other, int p, int what) {
            if (!isSet(s) || !isKey(key) || !isKey(other) || p < 0 || p > 10 || what < 0 || what > 1) {
                return BAD;
            }
            if (!sets.get(s).contains(other) || other <= key || sets.get(s).subSet(key + 1, other).size() > 16) {
                return STATE;
            }
            int between = sets.get(s).subSet(key + 1, other).size();
            BigInteger above = BigInteger.valueOf(p).pow(between).multiply(BigInteger.valueOf(10 - p));
            BigInteger below = BigInteger.TEN.pow(between + 1);
            BigInteger gcd = above.gcd(below);
            return (what == 0 ? above : below).divide(gcd).longValueExact();
        }

        int drawn(int n, int seed, int what) {
            if (sets.isEmpty()) {
                return STATE;
            }
            if (n < 0 || n > 200 || seed < 1 || seed > 999999 || what < 0 || what > 1) {
                return BAD;
            }
            List<TreeSet<Integer>> others = new ArrayList<>();
            for (TreeSet<Integer> each : sets) {
                others.add(new TreeSet<>(each));
            }
            long x = seed;
            for (int i = 0; i < n; i++) {
                x = x * 16807 % 2147483647;
                TreeSet<Integer> one = others.get((int) (x % others.size()));
                int key = (int) (x / 8 % top());
                if (!one.remove(key)) {
                    one.add(key);
                }
            }
            int sum = 0;
            for (TreeSet<Integer> each : others) {
                sum += what == 0 ? each.size() : new Node(bits, each).nodes();
            }
            return sum;
        }

        int image(int k) {
            if (k < 0 || k > 1) {
                return BAD;
            }
            if (sets.isEmpty()) {
                return STATE;
            }
            images[k] = new Object[] {bits, new ArrayList<>(sets), new ArrayList<>(kinds)};
            return 1;
        }

        @SuppressWarnings("unchecked")
        int restore(int k) {
            if (k < 0 || k > 1) {
                return BAD;
            }
            if (images[k] == null) {
                return STATE;
            }
            Object[] image = (Object[]) images[k];
            bits = (Integer) image[0];
            sets = new ArrayList<>((List<TreeSet<Integer>>) image[1]);
            kinds = new ArrayList<>((List<Integer>) image[2]);
            acts.clear();
            return 1;
        }

        int kind(int s) {
            return !isSet(s) ? BAD : kinds.get(s);
        }

        int as(int s, int kind) {
            if (!isSet(s) || kind < 0 || kind > 5) {
                return BAD;
            }
            List<List<Integer>> such = List.of(List.of(0), List.of(0, 1), List.of(0, 1, 2), List.of(0, 1, 3),
                List.of(0, 4), List.of(0, 4, 5));
            return such.get(kinds.get(s)).contains(kind) ? fine(s) : found(3);
        }

        int ask(int s, int what) {
            if (!isSet(s) || what < 0 || what > 1) {
                return BAD;
            }
            int size = sets.get(s).size();
            int least = size == 0 ? 0 : sets.get(s).first();
            int up = s + least;
            int[][] answers = {{size + up, up}, {-(size + 2 * up), 2 * up}, {size + up - 1000, up - 1000},
                {size - 100, s - (size - 100)}, {2 * (size - 100), s - 2 * (size - 100)}};
            int[][][] traces = {{{11, 10, 21, 20}, {21, 20}}, {{12, 11, 10, 24, 21, 20}, {24, 21, 20}},
                {{11, 10, 22, 21, 20}, {22, 21, 20}}, {{13, 10}, {23, 20, 13, 10}},
                {{14, 13, 10}, {23, 20, 14, 13, 10}}};
            trace = new ArrayList<>();
            Arrays.stream(traces[kinds.get(s) - 1][what]).forEach(trace::add);
            return answers[kinds.get(s) - 1][what];
        }

        int trace(int i) {
            return i < 0 || i >= trace.size() ? NONE : trace.get(i);
        }

        int count(int what) {
            switch (what) {
                case 0:
                    return (int) Arrays.stream(rows).filter(each -> each != null).count();
                case 1:
                    return sets.size();
                case 2:
                    return bits;
                case 3:
                    return sets.stream().mapToInt(TreeSet::size).sum();
                case 4:
                    int nodes = 0;
                    for (int s = 0; s < sets.size(); s++) {
                        nodes += root(s).nodes();
                    }
                    return nodes;
                case 5:
                    return acts.size();
                case 6:
                    return tape.size();
                default:
                    return BAD;
            }
        }
    }
}
