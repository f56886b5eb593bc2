/** Promises 16 to 31: what a SET is. */
final class SetEdges extends Edges {
    static void all() {
        plainFacts();
        nextOnes();
        nextEdges();
        besides();
        steps();
        trees();
        clusters();
        summaries();
        words();
        bits();
        shares();
        ranks();
        nths();
        nears();
        tells();
        tellPlaces();
    }

    /** One SET of that many bits, that has just these KEYS. */
    static Keys having(int bits, int... keys) {
        Keys x = told("u" + bits + ";a0;");
        x.take(0, 0);
        for (int key : keys) {
            x.add(0, key);
        }
        return x;
    }

    static Keys full(int bits) {
        Keys x = having(bits);
        x.flip(0, 0, (1 << bits) - 1);
        return x;
    }

    static void plainFacts() {
        test(16, "Whether it has a KEY: 1, 0. BAD.", () -> {
            span(0, 3, (x, set) -> x.contains(set, 3));
            span(0, 63, (x, key) -> x.contains(0, key));
            noShelf(x -> x.contains(0, 0));
            stillBusy(x -> x.contains(0, 2), 0);
            stillBusy(x -> x.contains(0, 3), 1);
            stillBusy(x -> x.contains(0, 5), 1);
            stillBusy(x -> x.contains(0, 6), 0);
        });
        test(16, "A SET has some of the KEYS 0 to TOP less 1.", () -> {
            for (int bits = 2; bits <= 10; bits++) {
                int top = 1 << bits;
                Keys x = having(bits, 0, top - 1);
                due(x.contains(0, 0), 1);
                due(x.contains(0, 1), 0);
                due(x.contains(0, top - 2), 0);
                due(x.contains(0, top - 1), 1);
                due(x.contains(0, top), BAD);
                due(x.contains(0, -1), BAD);
            }
        });
        test(17, "How many KEYS. BAD.", () -> {
            span(0, 3, (x, set) -> x.keys(set));
            noShelf(x -> x.keys(0));
            stillBusy(x -> x.keys(0), 3);
            stillBusy(x -> x.keys(1), 64);
            stillBusy(x -> x.keys(2), 0);
            for (int bits = 2; bits <= 10; bits++) {
                due(having(bits).keys(0), 0);
                due(having(bits, (1 << bits) - 1).keys(0), 1);
                due(full(bits).keys(0), 1 << bits);
            }
        });
        test(18, "The least KEY (what = 0), the greatest (1); NONE. BAD.", () -> {
            span(0, 3, (x, set) -> x.end(set, 0));
            span(0, 1, (x, what) -> x.end(0, what));
            noShelf(x -> x.end(0, 0));
            stillBusy(x -> x.end(0, 0), 3);
            stillBusy(x -> x.end(0, 1), 5);
            stillBusy(x -> x.end(2, 0), NONE);
            stillBusy(x -> x.end(2, 1), NONE);
            for (int bits = 2; bits <= 10; bits++) {
                int last = (1 << bits) - 1;
                due(full(bits).end(0, 0), 0);
                due(full(bits).end(0, 1), last);
                due(having(bits, last).end(0, 0), last);
                due(having(bits, 0).end(0, 1), 0);
                due(having(bits).end(0, 0), NONE);
                due(having(bits).end(0, 1), NONE);
            }
        });
    }

    /** NEXT of each KEY of 8, in a SET of each SORT that has 2 and 5. */
    static void nextOnes() {
        int n = NONE;
        int[][] due = {{2, 2, 5, 5, 5, n, n, n}, {2, 2, 5, 5, 5, 2, 2, 2}, {2, 2, 2, 5, 5, 5, n, n},
            {n, n, n, 2, 2, 2, 5, 5}, {5, 5, 5, 2, 2, 2, 5, 5}};
        String[] words = {"of an above one that ABOVE it, none, if there is none",
            "a round one as an above one, but the least of all, if there is none",
            "a closed one the KEY itself, if the SET has it, else as an above one",
            "a below one that BELOW it, none", "a deep one as a below one, but the greatest of all, if there is none"};
        for (int sort = 0; sort < 5; sort++) {
            String letter = String.valueOf("arcbd".charAt(sort));
            int[] want = due[sort];
            boolean around = letter.equals("r") || letter.equals("d");
            test(19, words[sort], () -> {
                Keys x = told("u3;" + letter + "2,5;");
                for (int key = 0; key < 8; key++) {
                    due(x.next(0, key), want[key]);
                }
                Keys one = told("u3;" + letter + "4;");
                due(one.next(0, 4), around || letter.equals("c") ? 4 : NONE);
                due(one.next(0, 0), letter.equals("b") ? NONE : 4);
                due(one.next(0, 7), letter.equals("a") || letter.equals("c") ? NONE : 4);
            });
            test(19, "(Of an EMPTY SET none.)", () -> {
                Keys x = told("u3;" + letter + "2;");
                x.take(0, 2);
                for (int key = 0; key < 8; key++) {
                    due(x.next(0, key), NONE);
                }
            });
            test(19, "the KEY need not be in it", () -> {
                for (int bits = 2; bits <= 10; bits++) {
                    int last = (1 << bits) - 1;
                    Keys x = told("u" + bits + ";" + letter + "0;");
                    x.add(0, last);
                    boolean down = letter.equals("b") || letter.equals("d");
                    due(x.next(0, 1), down ? 0 : last);
                    due(x.next(0, last - 1), down ? 0 : last);
                    due(x.next(0, 0), letter.equals("b") ? NONE : letter.equals("c") ? 0 : last);
                    due(x.next(0, last), letter.equals("a") ? NONE : letter.equals("c") ? last : 0);
                }
            });
        }
    }

    static void nextEdges() {
        test(19, "NEXT; NONE. BAD.", () -> {
            span(0, 3, (x, set) -> x.next(set, 3));
            span(0, 63, (x, key) -> x.next(0, key));
            noShelf(x -> x.next(0, 0));
            stillBusy(x -> x.next(0, 4), 5);
            stillBusy(x -> x.next(0, 5), NONE);
            stillBusy(x -> x.next(1, 63), 0);
            stillBusy(x -> x.next(2, 0), NONE);
        });
    }

    static void besides() {
        test(20, "ABOVE (what = 0), BELOW (1), whatever KIND it is; NONE. BAD.", () -> {
            span(0, 3, (x, set) -> x.beside(set, 3, 0));
            span(0, 63, (x, key) -> x.beside(0, key, 0));
            span(0, 63, (x, key) -> x.beside(0, key, 1));
            span(0, 1, (x, what) -> x.beside(0, 3, what));
            noShelf(x -> x.beside(0, 0, 0));
            stillBusy(x -> x.beside(0, 5, 0), NONE);
            stillBusy(x -> x.beside(0, 3, 1), NONE);
            stillBusy(x -> x.beside(2, 9, 0), NONE);
            stillBusy(x -> x.beside(2, 9, 1), NONE);
        });
        test(20, "ABOVE a KEY: the least of the SET that is greater; BELOW: the greatest that is less; none.", () -> {
            int n = NONE;
            int[] above = {2, 2, 5, 5, 5, n, n, n};
            int[] below = {n, n, n, 2, 2, 2, 5, 5};
            for (char sort : "arcbd".toCharArray()) {
                Keys x = told("u3;" + sort + "2,5;");
                for (int key = 0; key < 8; key++) {
                    due(x.beside(0, key, 0), above[key]);
                    due(x.beside(0, key, 1), below[key]);
                }
            }
            for (int bits = 2; bits <= 10; bits++) {
                int last = (1 << bits) - 1;
                Keys x = having(bits, 0, last);
                due(x.beside(0, 0, 0), last);
                due(x.beside(0, 0, 1), NONE);
                due(x.beside(0, last - 1, 0), last);
                due(x.beside(0, last, 0), NONE);
                due(x.beside(0, last, 1), 0);
                due(x.beside(0, 1, 1), 0);
            }
        });
        test(20, "whatever KIND it is", () -> {
            for (int edge = 32; edge < 1024; edge += 32) {
                Keys x = having(10, edge - 1, edge);
                due(x.beside(0, edge - 2, 0), edge - 1);
                due(x.beside(0, edge - 1, 0), edge);
                due(x.beside(0, edge, 0), NONE);
                due(x.beside(0, edge - 1, 1), NONE);
                due(x.beside(0, edge, 1), edge - 1);
                due(x.beside(0, Math.min(edge + 32, 1023), 1), edge);
            }
        });
    }

    static void steps() {
        test(21, "STEPS above a KEY in the ROOT. BAD.", () -> {
            span(0, 3, (x, set) -> x.steps(set, 3));
            span(0, 63, (x, key) -> x.steps(0, key));
            noShelf(x -> x.steps(0, 0));
            stillBusy(x -> x.steps(0, 2), 1);
            stillBusy(x -> x.steps(2, 63), 1);
        });
        test(21, "1, if it is EMPTY", () -> {
            for (int bits = 2; bits <= 10; bits++) {
                due(having(bits).steps(0, 0), 1);
                due(having(bits).steps(0, (1 << bits) - 1), 1);
            }
        });
        test(21, "or the NUMBER is less than its LEAST", () -> {
            for (int bits = 2; bits <= 10; bits++) {
                int last = (1 << bits) - 1;
                due(having(bits, last).steps(0, last - 1), 1);
                due(having(bits, last).steps(0, 0), 1);
                due(having(bits, last).steps(0, last), 2);
                due(having(bits, 0).steps(0, 0), 2);
                due(full(bits).steps(0, 0), 2);
            }
        });
        test(21, "or has 1 bit", () -> {
            Keys x = full(2);
            for (int key = 0; key < 4; key++) {
                due(x.steps(0, key), 2);
            }
        });
        // 3 bits: CLUSTERS of 1 bit, that take one step, and a SUMMARY of 2 bits, that takes two from its LEAST on
        test(21, "if that is not EMPTY and its GREATEST is greater than the LOW part", () -> {
            Keys x = having(3, 0, 3);
            due(x.steps(0, 0), 2);
            due(x.steps(0, 1), 2);
            due(x.steps(0, 2), 2);
            due(x.steps(0, 3), 3);
            due(x.steps(0, 4), 3);
            x = having(3, 0, 2);
            due(x.steps(0, 1), 2);
            due(x.steps(0, 2), 3);
            due(x.steps(0, 3), 3);
            x = having(3, 0, 1, 7);
            due(x.steps(0, 0), 2);
            due(x.steps(0, 1), 3);
            due(x.steps(0, 6), 2);
            due(x.steps(0, 7), 3);
        });
        // 6 bits: CLUSTERS and a SUMMARY of 3 bits, so the same within them
        test(21, "else 1 and the STEPS above its LOW part in the CLUSTER of its HIGH part", () -> {
            Keys x = having(6, 0, 8, 11);
            due(x.steps(0, 7), 2);
            due(x.steps(0, 8), 3);
            due(x.steps(0, 9), 3);
            due(x.steps(0, 10), 3);
            due(x.steps(0, 11), 3);
            x = having(6, 0, 8, 10, 15);
            due(x.steps(0, 9), 3);
            due(x.steps(0, 10), 4);
            due(x.steps(0, 11), 4);
            due(x.steps(0, 14), 3);
            due(x.steps(0, 15), 3);
            x = having(6, 0, 1, 24);
            due(x.steps(0, 0), 2);
            due(x.steps(0, 1), 3);
            due(x.steps(0, 16), 3);
            due(x.steps(0, 24), 4);
            due(x.steps(0, 63), 4);
        });
        test(21, "else 1 and the STEPS above its HIGH part in the SUMMARY", () -> {
            Keys x = having(3, 1, 6);
            due(x.steps(0, 0), 1);
            due(x.steps(0, 1), 2);
            due(x.steps(0, 5), 2);
            due(x.steps(0, 6), 3);
            due(x.steps(0, 7), 3);
            x = having(4, 1, 6, 7, 12);
            int[] due = {1, 2, 2, 2, 2, 2, 3, 3, 3, 3, 3, 3, 3, 3, 3, 3};
            for (int key = 0; key < 16; key++) {
                due(x.steps(0, key), due[key]);
            }
        });
    }

    static void trees() {
        test(22, "NODES (what = 0), DEPTH (1). BAD.", () -> {
            span(0, 3, (x, set) -> x.tree(set, 0));
            span(0, 1, (x, what) -> x.tree(0, what));
            noShelf(x -> x.tree(0, 0));
            stillBusy(x -> x.tree(2, 0), 0);
            stillBusy(x -> x.tree(2, 1), 0);
        });
        test(22, "0, if it is EMPTY", () -> {
            for (int bits = 2; bits <= 10; bits++) {
                due(having(bits).tree(0, 0), 0);
                due(having(bits).tree(0, 1), 0);
            }
        });
        test(22, "(the same, if it has one NUMBER alone)", () -> {
            for (int bits = 2; bits <= 10; bits++) {
                for (int key : new int[] {0, 1, (1 << bits) - 1}) {
                    due(having(bits, key).tree(0, 0), 1);
                    due(having(bits, key).tree(0, 1), 1);
                }
            }
        });
        test(22, "the NUMBERS but its LEAST are held by their HIGH parts", () -> {
            for (int bits = 2; bits <= 10; bits++) {
                Keys x = having(bits, 0, (1 << bits) - 1);
                due(x.tree(0, 0), 3);
                due(x.tree(0, 1), 2);
                x = having(bits, 0, 1);
                due(x.tree(0, 0), 3);
                due(x.tree(0, 1), 2);
            }
        });
        test(22, "1 more than the greatest DEPTH of its SUMMARY, its CLUSTERS", () -> {
            int[][] keys = {{0, 1, 2}, {0, 4, 7}, {0, 12, 15}, {0, 4, 12}, {0, 5, 9, 10}};
            int[] nodes = {5, 5, 5, 6, 8};
            for (int i = 0; i < keys.length; i++) {
                Keys x = having(4, keys[i]);
                due(x.tree(0, 0), nodes[i]);
                due(x.tree(0, 1), 3);
            }
            int[][] deeper = {{0, 1, 2, 3}, {0, 16, 20, 23}, {0, 240, 252, 255}, {0, 16, 80, 128}};
            int[] deeperNodes = {7, 7, 7, 10};
            for (int i = 0; i < deeper.length; i++) {
                Keys x = having(8, deeper[i]);
                due(x.tree(0, 0), deeperNodes[i]);
                due(x.tree(0, 1), 4);
            }
        });
        test(22, "with l half of b (cut) and h the rest", () -> {
            // 2 bits: ROOT, SUMMARY and two CLUSTERS of 1 bit; 3 bits: a SUMMARY as that, four CLUSTERS of 1 bit
            int[] nodes = {4, 9, 20};
            int[] depths = {2, 3, 3};
            for (int bits = 2; bits <= 4; bits++) {
                due(full(bits).tree(0, 0), nodes[bits - 2]);
                due(full(bits).tree(0, 1), depths[bits - 2]);
            }
        });
    }

    static void clusters() {
        int[] highs = {2, 4, 4, 8, 8, 16, 16, 32, 32};
        int[] lows = {2, 2, 4, 4, 8, 8, 16, 16, 32};
        test(23, "BAD: x no HIGH part, too.", () -> {
            span(0, 3, (x, set) -> x.cluster(set, 0, 0));
            span(0, 7, (x, high) -> x.cluster(0, high, 0));
            span(0, 2, (x, what) -> x.cluster(0, 0, what));
            noShelf(x -> x.cluster(0, 0, 0));
            for (int bits = 2; bits <= 10; bits++) {
                int high = highs[bits - 2];
                int low = lows[bits - 2];
                Keys x = having(bits, 0, high * low - 1);
                for (int what = 0; what <= 2; what++) {
                    due(x.cluster(0, high - 1, what), what == 2 ? 1 : low - 1);
                    due(x.cluster(0, high, what), BAD);
                    due(x.cluster(0, -1, what), BAD);
                    due(x.cluster(0, 0, what), what == 2 ? 0 : NONE);
                }
            }
        });
        test(23, "its LEAST (what = 0; NONE), its GREATEST (1; NONE), its NODES (2)", () -> {
            for (int bits = 2; bits <= 10; bits++) {
                int low = lows[bits - 2];
                Keys x = having(bits);
                Keys alone = having(bits, 1);
                for (int what = 0; what <= 2; what++) {
                    due(x.cluster(0, 0, what), what == 2 ? 0 : NONE);
                    due(alone.cluster(0, 0, what), what == 2 ? 0 : NONE);
                }
                Keys ends = having(bits, 0, low, 2 * low - 1);
                due(ends.cluster(0, 1, 0), 0);
                due(ends.cluster(0, 1, 1), low - 1);
                due(ends.cluster(0, 1, 2), low == 2 ? 1 : 3);
                Keys first = having(bits, 0, low, low + 1);
                due(first.cluster(0, 1, 1), 1);
                due(first.cluster(0, 1, 2), low == 2 ? 1 : 3);
                due(first.tree(0, 1), low == 2 ? 2 : 3);
                Keys bottom = having(bits, 0, 1);
                due(bottom.cluster(0, 0, 0), 1);
                due(bottom.cluster(0, 0, 1), 1);
                due(bottom.cluster(0, 0, 2), 1);
                due(bottom.cluster(0, 1, 0), NONE);
            }
        });
        test(23, "Of CLUSTER x of the ROOT", () -> {
            stillBusy(x -> x.cluster(0, 0, 0), 4);
            stillBusy(x -> x.cluster(0, 0, 1), 5);
            stillBusy(x -> x.cluster(0, 0, 2), 3);
            stillBusy(x -> x.cluster(2, 0, 0), NONE);
        });
    }

    static void summaries() {
        test(24, "Of the SUMMARY of the ROOT: as of a CLUSTER. BAD.", () -> {
            span(0, 3, (x, set) -> x.summary(set, 0));
            span(0, 2, (x, what) -> x.summary(0, what));
            noShelf(x -> x.summary(0, 0));
            stillBusy(x -> x.summary(0, 0), 0);
            stillBusy(x -> x.summary(1, 1), 7);
            stillBusy(x -> x.summary(2, 2), 0);
        });
        test(24, "the SUMMARY, a NODE of h bits, has all x of which the CLUSTER is not EMPTY", () -> {
            int[] highs = {2, 4, 4, 8, 8, 16, 16, 32, 32};
            for (int bits = 2; bits <= 10; bits++) {
                int last = (1 << bits) - 1;
                for (int what = 0; what <= 2; what++) {
                    due(having(bits).summary(0, what), what == 2 ? 0 : NONE);
                    due(having(bits, last).summary(0, what), what == 2 ? 0 : NONE);
                    due(having(bits, 0, last).summary(0, what), what == 2 ? 1 : highs[bits - 2] - 1);
                    due(having(bits, 0, 1).summary(0, what), what == 2 ? 1 : 0);
                }
                Keys x = having(bits, 0, 1, last);
                due(x.summary(0, 0), 0);
                due(x.summary(0, 1), highs[bits - 2] - 1);
                due(x.summary(0, 2), bits == 2 ? 1 : 3);
                x = having(bits, 0, 1, (1 << bits) / highs[bits - 2]);
                due(x.summary(0, 0), 0);
                due(x.summary(0, 1), 1);
                due(x.summary(0, 2), bits == 2 ? 1 : 3);
            }
        });
    }

    static void words() {
        test(25, "BAD: no such SET, LEVEL, word.", () -> {
            span(0, 3, (x, set) -> x.word(set, 0, 0));
            span(0, 1, (x, level) -> x.word(0, level, 0));
            span(0, 1, (x, i) -> x.word(0, 0, i));
            span(0, 0, (x, i) -> x.word(0, 1, i));
            noShelf(x -> x.word(0, 0, 0));
            stillBusy(x -> x.word(0, 0, 0), 56);
            stillBusy(x -> x.word(0, 1, 0), 1);
        });
        test(25, "as many words as TOP needs (one, if TOP is below 32)", () -> {
            for (int bits = 2; bits <= 10; bits++) {
                int words = bits <= 5 ? 1 : 1 << (bits - 5);
                int last = (1 << bits) - 1;
                Keys x = having(bits, last);
                due(x.word(0, 0, words - 1), 1 << last % 32);
                due(x.word(0, 0, words), BAD);
                due(x.word(0, 0, -1), BAD);
                due(full(bits).word(0, 0, words - 1), bits < 5 ? (1 << (1 << bits)) - 1 : -1);
            }
        });
        test(25, "if these are more than one, there is LEVEL 1: one word", () -> {
            for (int bits = 2; bits <= 10; bits++) {
                int words = bits <= 5 ? 1 : 1 << (bits - 5);
                int last = (1 << bits) - 1;
                due(having(bits, last).word(0, 1, 0), words == 1 ? BAD : 1 << (words - 1));
                due(having(bits).word(0, 1, 0), words == 1 ? BAD : 0);
                due(having(bits, 0).word(0, 1, 0), words == 1 ? BAD : 1);
                due(having(bits, last).word(0, 1, 1), BAD);
                due(having(bits, last).word(0, 1, -1), BAD);
                due(having(bits, last).word(0, 2, 0), BAD);
                due(having(bits, last).word(0, -1, 0), BAD);
            }
        });
        test(25, "the first one is worth 1", () -> {
            Keys x = having(6, 0, 32);
            due(x.word(0, 0, 0), 1);
            due(x.word(0, 0, 1), 1);
            due(x.word(0, 1, 0), 3);
        });
        test(25, "A word is told as an int is.", () -> {
            due(having(5, 31).word(0, 0, 0), MIN);
            due(having(6, 31, 30).word(0, 0, 0), 0xc0000000);
            due(having(10, 1023).word(0, 0, 31), MIN);
            due(having(10, 992).word(0, 1, 0), MIN);
            due(full(10).word(0, 1, 0), -1);
        });
    }

    static void bits() {
        test(26, "LEAD (what = 0), TRAIL (1), how many bits are 1 (2); NONE. BAD.", () -> {
            span(0, 3, (x, set) -> x.bits(set, 0, 0, 0));
            span(0, 1, (x, level) -> x.bits(0, level, 0, 0));
            span(0, 1, (x, i) -> x.bits(0, 0, i, 0));
            span(0, 0, (x, i) -> x.bits(0, 1, i, 0));
            span(0, 2, (x, what) -> x.bits(0, 0, 0, what));
            noShelf(x -> x.bits(0, 0, 0, 0));
            stillBusy(x -> x.bits(0, 0, 0, 0), 5);
            stillBusy(x -> x.bits(0, 0, 0, 1), 3);
            stillBusy(x -> x.bits(0, 0, 0, 2), 3);
        });
        test(26, "LEAD of a word: its highest bit that is 1; TRAIL: its lowest; NONE of 0.", () -> {
            int[][] ones = {{0, 0}, {31, 31}, {0, 31}, {30, 31}, {1, 1}};
            for (int[] two : ones) {
                Keys x = having(6, two[0]);
                x.add(0, two[1]);
                due(x.bits(0, 0, 0, 0), two[1]);
                due(x.bits(0, 0, 0, 1), two[0]);
                due(x.bits(0, 0, 0, 2), two[0] == two[1] ? 1 : 2);
                due(x.bits(0, 0, 1, 0), NONE);
                due(x.bits(0, 0, 1, 1), NONE);
                due(x.bits(0, 0, 1, 2), 0);
                due(x.bits(0, 1, 0, 0), 0);
                due(x.bits(0, 1, 0, 2), 1);
            }
            Keys full = full(10);
            due(full.bits(0, 0, 31, 0), 31);
            due(full.bits(0, 0, 31, 1), 0);
            due(full.bits(0, 0, 31, 2), 32);
            due(full.bits(0, 1, 0, 0), 31);
            due(full.bits(0, 1, 0, 2), 32);
            Keys empty = having(6);
            due(empty.bits(0, 1, 0, 0), NONE);
            due(empty.bits(0, 1, 0, 1), NONE);
            due(empty.bits(0, 1, 0, 2), 0);
        });
        test(26, "if these are more than one, there is LEVEL 1", () -> {
            due(full(5).bits(0, 1, 0, 0), BAD);
            due(full(5).bits(0, 0, 1, 0), BAD);
            due(full(6).bits(0, 1, 0, 0), 1);
            due(full(6).bits(0, 0, 2, 0), BAD);
            due(full(10).bits(0, 0, 32, 2), BAD);
        });
    }

    static void shares() {
        test(27, "FILL (what = 0), MEAN (1), the bits of the float; MEAN, cut (2). BAD.", () -> {
            span(0, 3, (x, set) -> x.share(set, 0));
            span(0, 2, (x, what) -> x.share(0, what));
            noShelf(x -> x.share(0, 0));
            stillBusy(x -> x.share(1, 0), Float.floatToIntBits(1f));
            stillBusy(x -> x.share(0, 1), Float.floatToIntBits(4f));
            stillBusy(x -> x.share(0, 2), 4);
        });
        test(27, "(of an EMPTY SET 0)", () -> {
            for (int bits = 2; bits <= 10; bits++) {
                for (int what = 0; what <= 2; what++) {
                    due(having(bits).share(0, what), 0);
                }
                due(having(bits, 0).share(0, 1), 0);
                due(having(bits, 0).share(0, 2), 0);
            }
        });
        test(27, "how many KEYS it has by TOP", () -> {
            for (int bits = 2; bits <= 10; bits++) {
                due(having(bits, 0).share(0, 0), (127 - bits) << 23);
                due(full(bits).share(0, 0), 127 << 23);
                Keys x = full(bits);
                x.take(0, 0);
                due(x.share(0, 0), Float.floatToIntBits(1 - 1f / (1 << bits)));
            }
        });
        // 4/3 is cut at ..1010 and goes up, 5/3 at ..0101 and goes down; no MEAN lies just between two floats
        test(27, "each as a float is nearest to it", () -> {
            due(having(3, 0, 1, 3).share(0, 1), 0x3faaaaab);
            due(having(3, 0, 1, 4).share(0, 1), 0x3fd55555);
            due(having(2, 0, 1).share(0, 1), 0x3f000000);
            due(having(2, 1).share(0, 1), 0x3f800000);
            due(having(10, 1023).share(0, 1), Float.floatToIntBits(1023f));
            due(having(10, 1022, 1023).share(0, 1), Float.floatToIntBits(1022.5f));
            due(full(10).share(0, 1), Float.floatToIntBits(511.5f));
            Keys x = full(10);
            x.take(0, 1022);
            due(x.share(0, 1), Float.floatToIntBits((float) (522754.0 / 1023)));
        });
        test(27, "MEAN: all its KEYS, together, by how many there are", () -> {
            Keys x = full(10);
            int total = 523776;
            for (int size = 1023; size > 863; size--) {
                int key = size * 37 % 1024;
                x.take(0, key);
                total -= key;
                due(x.share(0, 1), Float.floatToIntBits((float) ((double) total / size)));
                due(x.share(0, 2), total / size);
            }
        });
        test(27, "and, cut, as an int", () -> {
            due(having(2, 0, 1).share(0, 2), 0);
            due(having(3, 0, 1, 4).share(0, 2), 1);
            due(having(10, 1022, 1023).share(0, 2), 1022);
            due(having(10, 1023).share(0, 2), 1023);
            Keys x = full(10);
            due(x.share(0, 2), 511);
            x.take(0, 1022);
            due(x.share(0, 2), 511);
            x.take(0, 1023);
            due(x.share(0, 2), 510);
        });
    }

    static void ranks() {
        test(28, "How many KEYS are less than a KEY. BAD.", () -> {
            span(0, 3, (x, set) -> x.rank(set, 0));
            span(0, 63, (x, key) -> x.rank(0, key));
            noShelf(x -> x.rank(0, 0));
            stillBusy(x -> x.rank(0, 3), 0);
            stillBusy(x -> x.rank(0, 4), 1);
            stillBusy(x -> x.rank(0, 6), 3);
            stillBusy(x -> x.rank(2, 63), 0);
            for (int bits = 2; bits <= 10; bits++) {
                int last = (1 << bits) - 1;
                due(full(bits).rank(0, 0), 0);
                due(full(bits).rank(0, 1), 1);
                due(full(bits).rank(0, last), last);
                due(having(bits, last).rank(0, last), 0);
                due(having(bits, 0).rank(0, last), 1);
                due(having(bits).rank(0, last), 0);
            }
            due(full(7).rank(0, 31), 31);
            due(full(7).rank(0, 32), 32);
            due(full(7).rank(0, 33), 33);
        });
    }

    static void nths() {
        test(29, "NONE: not so many.", () -> {
            due(having(6).nth(0, 0), NONE);
            due(having(6, 9).nth(0, 1), NONE);
            due(having(6, 9).nth(0, 0), 9);
            for (int bits = 2; bits <= 10; bits++) {
                int top = 1 << bits;
                due(full(bits).nth(0, 0), 0);
                due(full(bits).nth(0, top - 1), top - 1);
                due(full(bits).nth(0, top), NONE);
                due(full(bits).nth(0, MAX), NONE);
            }
            due(full(6).nth(0, 31), 31);
            due(full(6).nth(0, 32), 32);
        });
        test(29, "BAD: k below 0, too.", () -> {
            span(0, 3, (x, set) -> x.nth(set, 0));
            noShelf(x -> x.nth(0, 0));
            stillBusy(x -> x.nth(0, -1), BAD);
            stillBusy(x -> x.nth(2, -1), BAD);
            stillBusy(x -> x.nth(0, MIN), BAD);
            stillBusy(x -> x.nth(0, 0), 3);
            stillBusy(x -> x.nth(0, 2), 5);
            stillBusy(x -> x.nth(0, 3), NONE);
        });
    }

    static void nears() {
        test(30, "The KEY of the SET that is nearest to a KEY, of two the lesser; NONE. BAD.", () -> {
            span(0, 3, (x, set) -> x.near(set, 0));
            span(0, 63, (x, key) -> x.near(0, key));
            noShelf(x -> x.near(0, 0));
            stillBusy(x -> x.near(0, 0), 3);
            stillBusy(x -> x.near(0, 63), 5);
            stillBusy(x -> x.near(2, 0), NONE);
        });
        test(30, "of two the lesser", () -> {
            Keys x = having(6, 10, 14, 17);
            int[] due = {10, 10, 10, 14, 14, 14, 17, 17};
            for (int i = 0; i < due.length; i++) {
                due(x.near(0, 10 + i), due[i]);
            }
            x = having(10, 0, 1022);
            due(x.near(0, 511), 0);
            due(x.near(0, 512), 1022);
            due(x.near(0, 1023), 1022);
            x = having(7, 31, 33);
            due(x.near(0, 32), 31);
        });
        test(30, "NONE. BAD.", () -> {
            for (int bits = 2; bits <= 10; bits++) {
                int last = (1 << bits) - 1;
                due(having(bits).near(0, 0), NONE);
                due(having(bits).near(0, last), NONE);
                due(having(bits, 0).near(0, last), 0);
                due(having(bits, last).near(0, 0), last);
                due(having(bits, last).near(0, last), last);
            }
        });
    }

    static void tells() {
        test(31, "BAD: SET, KEY, ROW; NULL; PLACE", () -> {
            span(0, 3, (x, set) -> x.tell(set, 0, 4, 0));
            span(0, 63, (x, key) -> x.tell(0, key, 4, 0));
            span(0, 7, (x, row) -> x.tell(0, 0, row, 0));
            noShelf(x -> x.tell(0, 0, 0, 0));
            stillBusy(x -> x.tell(0, 0, 5, 0), NULL);
            stillBusy(x -> x.tell(0, 0, 7, -1), NULL);
            stillBusy(x -> x.tell(0, 64, 5, -1), BAD);
            stillBusy(x -> x.tell(4, 0, 0, -1), BAD);
        });
        test(31, "KEYS of a SET from a KEY on (it, too)", () -> {
            int[] from = {3, 4, 5, 9, 10};
            int[][] due = {{3, 5, 9, 0}, {5, 9, 0, 0}, {5, 9, 0, 0}, {9, 0, 0, 0}, {0, 0, 0, 0}};
            int[] told = {3, 2, 2, 1, 0};
            for (int i = 0; i < from.length; i++) {
                Keys x = told("u6;a3,5,9;");
                x.row(0, 2, 4);
                due(x.tell(0, from[i], 0, 0), told[i]);
                dueItems(x, 0, due[i]);
            }
        });
        test(31, "to its end, or as many as there are", () -> {
            Keys x = told("u6;a3,5,9;");
            x.row(0, 2, 5);
            due(x.tell(0, 0, 0, 3), 2);
            dueItems(x, 0, 0, 0, 0, 3, 5);
            due(x.tell(0, 0, 0, 2), 3);
            dueItems(x, 0, 0, 0, 3, 5, 9);
            due(x.tell(0, 0, 0, 1), 3);
            dueItems(x, 0, 0, 3, 5, 9, 9);
            due(x.tell(0, 0, 0, 4), 1);
            dueItems(x, 0, 0, 3, 5, 9, 3);
            Keys full = full(10);
            full.row(0, 2, 40);
            due(full.tell(0, 0, 0, 0), 40);
            due(full.tell(0, 983, 0, 0), 40);
            due(full.tell(0, 984, 0, 0), 40);
            due(full.tell(0, 985, 0, 0), 39);
            due(full.tell(0, 1023, 0, 0), 1);
        });
        test(31, "(each its lowest bits)", () -> {
            for (int lane = 0; lane <= 2; lane++) {
                for (int key : new int[] {127, 128, 255, 256, 383, 1023}) {
                    Keys x = having(10, key);
                    x.row(0, lane, 1);
                    due(x.tell(0, 0, 0, 0), 1);
                    int item = lane == 0 ? (byte) key : key;
                    x.shift(0, -9999);
                    due(x.gather(0, 0, 0, 1), item < 0 ? PLACE : 1);
                    due(x.end(0, 0), item < 0 ? NONE : item);
                }
            }
        });
    }

    static void tellPlaces() {
        test(31, "PLACE: i below 0, beyond the ROW (its end may be).", () -> {
            int[] ends = {4, 3, 2, 0, 40};
            for (int row = 0; row < 5; row++) {
                int one = row;
                int end = ends[row];
                stillBusy(x -> x.tell(0, 0, one, -1), PLACE);
                stillBusy(x -> x.tell(0, 0, one, end + 1), PLACE);
                stillBusy(x -> x.tell(0, 0, one, MIN), PLACE);
                stillBusy(x -> x.tell(0, 0, one, MAX), PLACE);
                stillBusy(x -> x.tell(2, 0, one, end + 1), PLACE);
                Keys x = busy();
                due(x.tell(0, 0, one, end), 0);
                due(x.tell(2, 0, one, end), 0);
                if (end > 0) {
                    due(x.tell(0, 0, one, end - 1), 1);
                    due(x.tell(2, 0, one, 0), 0);
                }
            }
        });
    }
}
