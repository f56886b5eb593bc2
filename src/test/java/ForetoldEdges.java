/** Promises 32 to 39: what is foretold, images. */
final class ForetoldEdges extends Edges {
    static void all() {
        chases();
        meets();
        covers();
        gaps();
        likelies();
        likelyEnds();
        draws();
        images();
        restores();
    }

    static void chases() {
        test(32, "CHASE; NONE. BAD.", () -> {
            span(0, 3, (x, a) -> x.chase(a, 0, 0, 1));
            span(0, 3, (x, b) -> x.chase(0, b, 0, 1));
            span(0, 63, (x, key) -> x.chase(0, 1, key, 1));
            noShelf(x -> x.chase(0, 0, 0, 0));
        });
        test(32, "n times (0 to 60)", () -> {
            span(0, 60, (x, n) -> x.chase(1, 1, 0, n));
            stillBusy(x -> x.chase(1, 1, 0, 60), 60);
            stillBusy(x -> x.chase(1, 1, 10, 60), 6);
            stillBusy(x -> x.chase(1, 1, 10, 54), 0);
            stillBusy(x -> x.chase(1, 1, 10, 53), 63);
            stillBusy(x -> x.chase(2, 2, 40, 0), 40);
            stillBusy(x -> x.chase(0, 3, 63, 0), 63);
        });
        test(32, "the NEXT of it in a, of that one in b, in a again, and so on", () -> {
            Keys x = told("u6;a5,10,15;b2,7,12;");
            int[] due = {9, 10, 7, 10, 7};
            int[] other = {9, 7, 10, 7, 10};
            for (int n = 0; n < due.length; n++) {
                due(x.chase(0, 1, 9, n), due[n]);
                due(x.chase(1, 0, 9, n), other[n]);
            }
            due(x.chase(0, 1, 9, 59), 10);
            due(x.chase(0, 1, 9, 60), 7);
        });
        test(32, "NONE, if at some time there is none", () -> {
            Keys x = told("u3;a3,6;r1;");
            due(x.chase(0, 0, 3, 1), 6);
            due(x.chase(0, 0, 3, 2), NONE);
            due(x.chase(0, 0, 3, 3), NONE);
            due(x.chase(0, 0, 3, 60), NONE);
            due(x.chase(0, 1, 6, 1), NONE);
            due(x.chase(0, 1, 6, 2), NONE);
            due(x.chase(1, 0, 6, 2), 3);
            due(x.chase(1, 1, 6, 60), 1);
            x.take(0, 3);
            x.take(0, 6);
            due(x.chase(1, 0, 6, 1), 1);
            due(x.chase(1, 0, 6, 2), NONE);
            due(x.chase(1, 0, 6, 3), NONE);
        });
    }

    static void meets() {
        test(33, "MEET; NONE. BAD.", () -> {
            span(0, 63, (x, key) -> x.meet(key));
            noShelf(x -> x.meet(0));
            stillBusy(x -> x.meet(0), NONE);
            stillBusy(x -> x.meet(63), NONE);
        });
        test(33, "the least KEY, it or greater, that all SETS have; NONE.", () -> {
            Keys x = told("u6;a0,31,32,63;b0,31,32,63;c0,31,32,33,63;");
            due(x.meet(0), 0);
            due(x.meet(1), 31);
            due(x.meet(31), 31);
            due(x.meet(32), 32);
            due(x.meet(33), 63);
            due(x.meet(63), 63);
            x.take(1, 63);
            due(x.meet(33), NONE);
            due(x.meet(63), NONE);
            due(x.meet(32), 32);
            x.take(2, 0);
            due(x.meet(0), 31);
        });
        test(33, "that all SETS have", () -> {
            Keys one = told("u2;a3;");
            due(one.meet(0), 3);
            due(one.meet(3), 3);
            due(one.meet(4), BAD);
            one.take(0, 3);
            due(one.meet(0), NONE);
            for (int lacking = 0; lacking < 4; lacking++) {
                Keys x = told("u4;a9;b9;c9;d9;");
                due(x.meet(9), 9);
                due(x.meet(10), NONE);
                x.take(lacking, 9);
                due(x.meet(9), NONE);
            }
        });
    }

    static void covers() {
        test(34, "BAD: a greater than b, too.", () -> {
            span(0, 63, (x, a) -> x.cover(a, 63, 0));
            span(0, 63, (x, b) -> x.cover(0, b, 0));
            span(0, 1, (x, what) -> x.cover(0, 0, what));
            noShelf(x -> x.cover(0, 0, 0));
            stillBusy(x -> x.cover(5, 4, 0), BAD);
            stillBusy(x -> x.cover(63, 0, 1), BAD);
            stillBusy(x -> x.cover(4, 4, 0), 1);
            stillBusy(x -> x.cover(4, 4, 1), 1);
            stillBusy(x -> x.cover(0, 63, 1), 2);
        });
        test(34, "how many; which (bits), of several the least; NONE.", () -> {
            Keys x = told("u4;a0,1;b1,2;c0,2;d3;");
            due(x.cover(0, 2, 0), 2);
            due(x.cover(0, 2, 1), 3);
            due(x.cover(1, 1, 1), 1);
            due(x.cover(2, 2, 1), 2);
            due(x.cover(3, 3, 1), 8);
            due(x.cover(2, 3, 1), 10);
            due(x.cover(0, 3, 0), 3);
            due(x.cover(0, 3, 1), 11);
            due(x.cover(4, 4, 0), NONE);
            due(x.cover(3, 4, 1), NONE);
            due(x.cover(0, 15, 0), NONE);
        });
        test(34, "the fewest SETS of which each KEY of the SPAN is in one at least", () -> {
            Keys four = told("u2;a0;b1;c2;d3;");
            due(four.cover(0, 3, 0), 4);
            due(four.cover(0, 3, 1), 15);
            due(four.cover(1, 3, 1), 14);
            Keys fewer = told("u2;a0,1;b2;c3;d0,1,2,3;");
            due(fewer.cover(0, 3, 0), 1);
            due(fewer.cover(0, 3, 1), 8);
            due(fewer.cover(0, 1, 1), 1);
            Keys last = told("u2;a0;");
            due(last.cover(0, 0, 1), 1);
            due(last.cover(0, 1, 1), NONE);
            due(last.cover(3, 3, 0), NONE);
        });
        test(34, "COVER of the SPAN from KEY a to KEY b", () -> {
            Keys x = told("u7;a31,63;b32,64;c31,32;");
            due(x.cover(31, 32, 1), 4);
            due(x.cover(63, 64, 1), 3);
            due(x.cover(32, 33, 1), NONE);
            due(x.cover(30, 31, 1), NONE);
            x.flip(2, 0, 127);
            due(x.cover(33, 127, 1), 4);
            due(x.cover(32, 127, 1), 6);
            due(x.cover(31, 127, 1), 7);
            due(x.cover(0, 127, 0), 3);
            due(x.cover(127, 127, 1), 4);
        });
    }

    static void gaps() {
        test(35, "GAP: the lesser (what = 0), how far (1); NONE. BAD.", () -> {
            span(0, 3, (x, set) -> x.gap(set, 0));
            span(0, 1, (x, what) -> x.gap(0, what));
            noShelf(x -> x.gap(0, 0));
            stillBusy(x -> x.gap(0, 0), 3);
            stillBusy(x -> x.gap(0, 1), 1);
        });
        test(35, "NONE, if it has fewer than two", () -> {
            stillBusy(x -> x.gap(2, 0), NONE);
            stillBusy(x -> x.gap(2, 1), NONE);
            for (int bits = 2; bits <= 10; bits++) {
                int last = (1 << bits) - 1;
                for (int what = 0; what <= 1; what++) {
                    due(SetEdges.having(bits).gap(0, what), NONE);
                    due(SetEdges.having(bits, 0).gap(0, what), NONE);
                    due(SetEdges.having(bits, last).gap(0, what), NONE);
                    due(SetEdges.having(bits, 0, last).gap(0, what), what * last);
                    due(SetEdges.having(bits, last - 1, last).gap(0, what), what == 0 ? last - 1 : 1);
                    due(SetEdges.full(bits).gap(0, what), what);
                }
            }
        });
        test(35, "the two that are farthest apart, of several the first", () -> {
            Keys x = SetEdges.having(7, 3, 10, 17, 20);
            due(x.gap(0, 0), 3);
            due(x.gap(0, 1), 7);
            x.add(0, 27);
            due(x.gap(0, 0), 3);
            x.add(0, 35);
            due(x.gap(0, 0), 27);
            due(x.gap(0, 1), 8);
            x.add(0, 127);
            due(x.gap(0, 0), 35);
            due(x.gap(0, 1), 92);
        });
    }

    static void likelies() {
        test(36, "LIKELY by p of 10 (0 to 10)", () -> span(0, 10, (x, p) -> x.likely(0, 3, 4, p, 0)));
        test(36, "above (what = 0), below (1). BAD", () -> {
            span(0, 3, (x, set) -> x.likely(set, 3, 4, 5, 0));
            span(0, 63, (x, key) -> x.likely(0, key, 4, 5, 0));
            span(0, 63, (x, other) -> x.likely(0, 3, other, 5, 0));
            span(0, 1, (x, what) -> x.likely(0, 3, 4, 5, what));
            noShelf(x -> x.likely(0, 0, 1, 5, 0));
            stillBusy(x -> x.likely(0, 3, 4, 5, 1), 2);
        });
        test(36, "BAD; STATE: the SET has not the other one", () -> {
            stillBusy(x -> x.likely(0, 3, 6, 5, 0), STATE);
            stillBusy(x -> x.likely(2, 0, 63, 5, 0), STATE);
            stillBusy(x -> x.likely(0, 3, 6, 11, 0), BAD);
            stillBusy(x -> x.likely(0, 3, 6, 5, 2), BAD);
            stillBusy(x -> x.likely(4, 3, 6, 5, 0), BAD);
            stillBusy(x -> x.likely(0, 64, 6, 5, 0), BAD);
        });
        test(36, "it is not greater", () -> {
            stillBusy(x -> x.likely(0, 4, 4, 5, 0), STATE);
            stillBusy(x -> x.likely(0, 4, 3, 5, 0), STATE);
            stillBusy(x -> x.likely(0, 63, 5, 5, 1), STATE);
            stillBusy(x -> x.likely(1, 0, 0, 5, 0), STATE);
            stillBusy(x -> x.likely(0, 4, 5, 5, 0), 1);
        });
        test(36, "more than 16 of the SET lie between", () -> {
            stillBusy(x -> x.likely(1, 0, 17, 5, 1), 131072);
            stillBusy(x -> x.likely(1, 0, 18, 5, 1), STATE);
            stillBusy(x -> x.likely(1, 46, 63, 5, 1), 131072);
            stillBusy(x -> x.likely(1, 45, 63, 5, 1), STATE);
            Keys x = busy();
            x.take(1, 9);
            due(x.likely(1, 0, 18, 5, 1), 131072);
            due(x.likely(1, 0, 19, 5, 1), STATE);
            due(x.likely(1, 9, 26, 5, 1), 131072);
            due(x.likely(1, 9, 27, 5, 1), STATE);
        });
    }

    static void likelyEnds() {
        test(36, "fractions, told as two numbers in lowest terms (0 is 0 by 1)", () -> {
            long[][] next = {{1, 1}, {9, 10}, {4, 5}, {7, 10}, {3, 5}, {1, 2}, {2, 5}, {3, 10}, {1, 5}, {1, 10},
                {0, 1}};
            long[][] second = {{0, 1}, {9, 100}, {4, 25}, {21, 100}, {6, 25}, {1, 4}, {6, 25}, {21, 100}, {4, 25},
                {9, 100}, {0, 1}};
            Keys x = busy();
            for (int p = 0; p <= 10; p++) {
                for (int what = 0; what <= 1; what++) {
                    due(x.likely(0, 3, 4, p, what), next[p][what]);
                    due(x.likely(0, 0, 3, p, what), next[p][what]);
                    due(x.likely(0, 3, 5, p, what), second[p][what]);
                }
            }
        });
        test(36, "each KEY of a SET is lost in p of 10 cases, apart", () -> {
            Keys x = busy();
            due(x.likely(1, 0, 17, 9, 0), 1853020188851841L);
            due(x.likely(1, 0, 17, 9, 1), 100000000000000000L);
            due(x.likely(1, 0, 17, 1, 0), 9L);
            due(x.likely(1, 0, 17, 1, 1), 100000000000000000L);
            due(x.likely(1, 0, 17, 7, 0), 99698791708803L);
            due(x.likely(1, 0, 17, 7, 1), 100000000000000000L);
            due(x.likely(1, 0, 17, 8, 0), 4294967296L);
            due(x.likely(1, 0, 17, 8, 1), 762939453125L);
            due(x.likely(1, 0, 17, 0, 0), 0);
            due(x.likely(1, 0, 17, 0, 1), 1);
            due(x.likely(1, 0, 17, 10, 0), 0);
            due(x.likely(1, 0, 17, 10, 1), 1);
        });
    }

    /** How many KEYS all SETS have at last, reckoned one by one. */
    static int drawnKeys(int n, int seed, boolean[][] sets) {
        long x = seed;
        for (int i = 0; i < n; i++) {
            x = x * 16807 % 2147483647;
            int key = (int) (x / 8 % sets[0].length);
            boolean[] one = sets[(int) (x % sets.length)];
            one[key] = !one[key];
        }
        int keys = 0;
        for (boolean[] set : sets) {
            for (boolean has : set) {
                keys += has ? 1 : 0;
            }
        }
        return keys;
    }

    static void draws() {
        test(37, "BAD; STATE: no SHELF (ahead of BAD).", () -> {
            still(Edges::fresh, x -> x.drawn(1, 1, 0), STATE);
            still(Edges::fresh, x -> x.drawn(-1, 1, 0), STATE);
            still(Edges::fresh, x -> x.drawn(201, 1, 0), STATE);
            still(Edges::fresh, x -> x.drawn(1, 0, 0), STATE);
            still(Edges::fresh, x -> x.drawn(1, 1, 2), STATE);
        });
        test(37, "DRAWN n times (0 to 200)", () -> span(0, 200, (x, n) -> x.drawn(n, 1, 0)));
        test(37, "DRAWN by a SEED (1 to 999999)", () -> span(1, 999999, (x, seed) -> x.drawn(1, seed, 0)));
        test(37, "KEYS (what = 0), NODES (1)", () -> span(0, 1, (x, what) -> x.drawn(1, 1, what)));
        test(37, "FORETOLD (nothing changes).", () -> {
            Keys x = busy();
            int keys = x.count(3);
            int nodes = x.count(4);
            stillBusy(y -> y.drawn(0, 1, 0), keys);
            stillBusy(y -> y.drawn(0, 999999, 1), nodes);
            int many = x.drawn(200, 7, 0);
            stillBusy(y -> y.drawn(200, 7, 0), many);
        });
        test(37, "how many KEYS all SETS have at last, together; how many NODES", () -> {
            for (int sets = 1; sets <= 4; sets++) {
                for (int bits = 2; bits <= 10; bits += 4) {
                    Keys x = told("u" + bits + ";" + "a0;".repeat(sets));
                    for (int seed : new int[] {1, 2, 999998, 999999}) {
                        for (int n : new int[] {0, 1, 2, 199, 200}) {
                            boolean[][] held = new boolean[sets][1 << bits];
                            for (boolean[] each : held) {
                                each[0] = true;
                            }
                            due(x.drawn(n, seed, 0), drawnKeys(n, seed, held));
                        }
                    }
                    due(x.drawn(0, 1, 1), sets);
                    due(x.count(3), sets);
                }
            }
            Keys full = told("u10;a0;b0;r5;c9;");
            full.flip(0, 0, 1023);
            due(full.drawn(200, 77, 1), 1690);
        });
    }

    static void images() {
        test(38, "An IMAGE (0, 1)", () -> span(0, 1, (x, k) -> x.image(k)));
        test(38, "BAD; STATE: no SHELF.", () -> {
            still(Edges::fresh, x -> x.image(0), STATE);
            still(Edges::fresh, x -> x.image(1), STATE);
            still(Edges::fresh, x -> x.image(2), BAD);
            still(Edges::fresh, x -> x.image(-1), BAD);
        });
        test(38, "is kept of the SHELF: 1", () -> {
            Keys x = told("u3;a1;");
            due(x.image(0), 1);
            x.add(0, 7);
            due(x.image(1), 1);
            due(x.count(5), 1);
            due(x.undo(), 0);
            due(x.image(0), 1);
            x.add(0, 0);
            x.restore(0);
            dueKeys(x, 0, 1);
            x.restore(1);
            dueKeys(x, 0, 1, 7);
        });
    }

    static void restores() {
        test(39, "BAD; STATE: none was kept.", () -> {
            span(0, 1, (x, k) -> x.restore(k));
            still(Edges::fresh, x -> x.restore(0), STATE);
            still(Edges::fresh, x -> x.restore(1), STATE);
            still(Edges::fresh, x -> x.restore(2), BAD);
            still(Edges::fresh, x -> x.restore(-1), BAD);
            for (int kept = 0; kept <= 1; kept++) {
                int one = kept;
                still(() -> {
                    Keys x = told("u3;a1;b2;");
                    x.add(0, 7);
                    x.image(one);
                    x.add(1, 6);
                    return x;
                }, x -> x.restore(1 - one), STATE);
            }
        });
        test(39, "The SHELF is as an IMAGE kept it (no ACT can be undone then): 1.", () -> {
            Keys x = told("u10;a1;b2;c3;d4;");
            x.flip(3, 0, 1023);
            x.image(0);
            x.add(0, 1023);
            read(x, "u2;r3;");
            due(x.restore(0), 1);
            due(x.count(5), 0);
            due(x.count(1), 4);
            due(x.count(2), 10);
            due(x.count(3), 1026);
            due(x.undo(), STATE);
            due(x.kind(3), 5);
            due(x.keys(3), 1023);
            due(x.contains(3, 4), 0);
            due(x.add(0, 5), 2);
            due(x.restore(0), 1);
            due(x.keys(0), 1);
            due(x.undo(), STATE);
        });
        test(39, "as an IMAGE kept it", () -> {
            Keys x = busy();
            due(x.restore(1), 1);
            due(x.count(0), 5);
            due(x.count(6), 6);
            due(x.fault(), 2);
            due(x.trace(0), 11);
            due(x.count(1), 2);
            due(x.count(2), 3);
            dueKeys(x, 0, 1, 6);
            dueKeys(x, 1, 0);
            due(x.kind(0), 5);
            due(x.kind(1), 2);
            due(x.keys(2), BAD);
            due(x.contains(0, 8), BAD);
            due(x.restore(0), 1);
            due(x.count(2), 6);
        });
    }
}
