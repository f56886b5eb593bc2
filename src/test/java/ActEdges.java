/** Promises 9 to 15: what is done and undone. */
final class ActEdges extends Edges {
    static void all() {
        undoing();
        forgotten();
        adding();
        taking();
        flipping();
        joining();
        shifting();
        gathering();
        gatherPlaces();
    }

    /** A busy object of which all ACTS are undone. */
    static Keys undone() {
        Keys x = busy();
        for (int i = 0; i < 24; i++) {
            x.undo();
        }
        return x;
    }

    static void undoing() {
        test(9, "STATE: none.", () -> {
            still(Edges::fresh, x -> x.undo(), STATE);
            still(ActEdges::undone, x -> x.undo(), STATE);
            still(() -> told("u2;a0;"), x -> x.undo(), STATE);
        });
        test(9, "The latest ACT is undone: how many can be undone yet", () -> {
            Keys x = told("u6;a1;b2;");
            due(x.add(0, 63), 2);
            due(x.undo(), 0);
            dueKeys(x, 0, 1);
            due(x.undo(), STATE);
            due(x.add(0, 0), 2);
            due(x.take(1, 2), 0);
            due(x.count(5), 2);
            due(x.undo(), 1);
            dueKeys(x, 1, 2);
            dueKeys(x, 0, 0, 1);
            due(x.undo(), 0);
            dueKeys(x, 0, 1);
            due(x.undo(), STATE);
        });
        test(9, "each can be undone, the latest first", () -> {
            Keys x = told("u4;a1;b2;");
            x.row(0, 0, 1);
            x.set(0, 0, 8);
            x.add(0, 5);
            x.take(1, 2);
            x.flip(0, 0, 15);
            x.join(1, 0, 1, 1);
            x.shift(1, 3);
            x.gather(1, 0, 0, 1);
            x.gather(1, 0, 0, 1);
            x.shift(0, 0);
            int[][] words = {{0xffdd, 0xffe8}, {0xffdd, 0xffe8}, {0xffdd, 0xfee8}, {0xffdd, 0xffdd}, {0xffdd, 0},
                {0x22, 0}, {0x22, 4}, {2, 4}};
            for (int i = 0; i < 8; i++) {
                due(x.count(5), 8 - i);
                due(x.undo(), 7 - i);
                due(x.word(0, 0, 0), words[i][0]);
                due(x.word(1, 0, 0), words[i][1]);
            }
            due(x.undo(), STATE);
        });
    }

    static void forgotten() {
        test(9, "24 at most are kept, of more the oldest is forgotten", () -> {
            for (int acts = 23; acts <= 49; acts++) {
                Keys x = told("u6;a63;");
                for (int i = 0; i < acts; i++) {
                    due(x.add(0, i), i + 2);
                    due(x.count(5), Math.min(i + 1, 24));
                }
                int kept = Math.min(acts, 24);
                for (int i = 1; i <= kept; i++) {
                    due(x.undo(), kept - i);
                    due(x.keys(0), acts - i + 1);
                }
                due(x.undo(), STATE);
                due(x.keys(0), acts - kept + 1);
                due(x.end(0, 0), acts == kept ? 63 : 0);
            }
        });
        test(9, "ACTS (24 at most are kept", () -> {
            Keys x = told("u6;a63;");
            for (int i = 0; i < 30; i++) {
                x.add(0, i);
            }
            for (int i = 0; i < 10; i++) {
                x.undo();
            }
            due(x.count(5), 14);
            for (int i = 0; i < 20; i++) {
                due(x.flip(0, 40 + i, 40 + i), 22 + i);
                due(x.count(5), Math.min(15 + i, 24));
            }
            for (int i = 1; i <= 20; i++) {
                due(x.undo(), 24 - i);
                due(x.keys(0), 41 - i);
            }
            for (int i = 1; i <= 4; i++) {
                due(x.undo(), 4 - i);
                due(x.keys(0), 21 - i);
            }
            due(x.undo(), STATE);
        });
    }

    static void adding() {
        test(10, "BAD; STATE: it is there.", () -> {
            span(0, 3, (x, set) -> x.add(set, 63));
            span(0, 63, (x, key) -> x.add(0, key));
            noShelf(x -> x.add(0, 0));
        });
        test(10, "STATE: it is there.", () -> {
            stillBusy(x -> x.add(0, 3), STATE);
            stillBusy(x -> x.add(0, 5), STATE);
            stillBusy(x -> x.add(1, 0), STATE);
            stillBusy(x -> x.add(1, 63), STATE);
            due(busy().add(0, 2), 4);
            due(busy().add(0, 6), 4);
            due(busy().add(2, 0), 1);
        });
        test(10, "A SET has some of the KEYS 0 to TOP less 1", () -> {
            for (int bits = 2; bits <= 10; bits++) {
                int top = 1 << bits;
                String text = "u" + bits + ";a1;";
                Keys x = told(text);
                due(x.add(0, top - 1), 2);
                due(x.add(0, 0), 3);
                dueKeys(x, 0, 0, 1, top - 1);
                still(() -> told(text), y -> y.add(0, top), BAD);
                still(() -> told(text), y -> y.add(0, -1), BAD);
            }
        });
        test(10, "A KEY is added: how many there are then", () -> {
            Keys x = told("u6;a31;b4;");
            due(x.add(0, 32), 2);
            due(x.add(0, 30), 3);
            dueKeys(x, 0, 30, 31, 32);
            dueKeys(x, 1, 4);
            due(x.count(5), 2);
        });
    }

    static void taking() {
        test(11, "BAD; STATE: it is not there.", () -> {
            span(0, 3, (x, set) -> x.take(set, 3));
            span(0, 63, (x, key) -> x.take(1, key));
            noShelf(x -> x.take(0, 0));
        });
        test(11, "STATE: it is not there.", () -> {
            stillBusy(x -> x.take(0, 2), STATE);
            stillBusy(x -> x.take(0, 6), STATE);
            stillBusy(x -> x.take(2, 0), STATE);
            stillBusy(x -> x.take(2, 63), STATE);
            due(busy().take(0, 3), 2);
            due(busy().take(0, 5), 2);
            due(busy().take(1, 0), 63);
            due(busy().take(1, 63), 63);
        });
        test(11, "A KEY is taken out: how many there are then", () -> {
            Keys x = told("u6;a31,32;b31;");
            due(x.take(0, 31), 1);
            dueKeys(x, 0, 32);
            due(x.take(0, 32), 0);
            dueKeys(x, 0);
            dueKeys(x, 1, 31);
            due(x.count(5), 2);
            due(x.take(0, 32), STATE);
            due(x.add(0, 32), 1);
        });
    }

    static void flipping() {
        test(12, "BAD.", () -> {
            span(0, 3, (x, set) -> x.flip(set, 0, 63));
            span(0, 63, (x, a) -> x.flip(0, a, 63));
            span(0, 63, (x, b) -> x.flip(0, 0, b));
            noShelf(x -> x.flip(0, 0, 0));
        });
        test(12, "(a no more than b)", () -> {
            due(busy().flip(0, 4, 4), 2);
            due(busy().flip(0, 6, 6), 4);
            stillBusy(x -> x.flip(0, 5, 4), BAD);
            stillBusy(x -> x.flip(0, 63, 0), BAD);
            stillBusy(x -> x.flip(0, 1, 0), BAD);
        });
        test(12, "each KEY of it that a SET has is taken out, each other one added", () -> {
            Keys x = told("u7;a30,33,64,96;b31;");
            due(x.flip(0, 31, 64), 34);
            due(x.word(0, 0, 0), 0xc0000000);
            due(x.word(0, 0, 1), ~2);
            due(x.word(0, 0, 2), 0);
            due(x.word(0, 0, 3), 1);
            due(x.flip(0, 0, 127), 94);
            due(x.flip(0, 0, 0), 93);
            due(x.flip(0, 127, 127), 92);
            due(x.flip(0, 31, 32), 94);
            dueKeys(x, 1, 31);
        });
        test(12, "a SPAN is turned", () -> {
            for (int bits = 2; bits <= 10; bits++) {
                int top = 1 << bits;
                Keys x = told("u" + bits + ";a0;");
                due(x.flip(0, 0, top - 1), top - 1);
                due(x.flip(0, 0, top - 1), 1);
                due(x.flip(0, 1, top - 1), top);
                due(x.flip(0, top - 1, top - 1), top - 1);
                due(x.end(0, 1), top - 2);
                due(x.flip(0, 0, top), BAD);
                due(x.flip(0, -1, top - 1), BAD);
            }
        });
    }

    static void joining() {
        test(13, "JOINED (how 0 to 3)", () -> span(0, 3, (x, how) -> x.join(how, 0, 1, 2)));
        test(13, "BAD.", () -> {
            span(0, 3, (x, a) -> x.join(1, a, 0, 0));
            span(0, 3, (x, b) -> x.join(1, 0, b, 0));
            span(0, 3, (x, c) -> x.join(1, 0, 0, c));
            noShelf(x -> x.join(0, 0, 0, 0));
        });
        test(13, "0 what both have; 1 any; 2 just one; 3 a, but not b", () -> {
            int[] due = {8, 14, 6, 2};
            for (int how = 0; how <= 3; how++) {
                Keys x = told("u2;a1,3;b2,3;c0;");
                due(x.join(how, 0, 1, 2), Integer.bitCount(due[how]));
                due(x.word(2, 0, 0), due[how]);
                due(x.word(0, 0, 0), 10);
                due(x.word(1, 0, 0), 12);
            }
        });
        test(13, "c may be a or b", () -> {
            int[] due = {8, 14, 6, 2};
            int[] itself = {10, 10, 0, 0};
            for (int how = 0; how <= 3; how++) {
                Keys x = told("u2;a1,3;b2,3;");
                x.join(how, 0, 1, 0);
                due(x.word(0, 0, 0), due[how]);
                due(x.word(1, 0, 0), 12);
                x.undo();
                due(x.word(0, 0, 0), 10);
                x.join(how, 0, 1, 1);
                due(x.word(1, 0, 0), due[how]);
                due(x.word(0, 0, 0), 10);
                x.undo();
                x.join(how, 0, 0, 0);
                due(x.word(0, 0, 0), itself[how]);
                x.undo();
                x.join(how, 0, 0, 1);
                due(x.word(1, 0, 0), itself[how]);
                due(x.count(5), 1);
            }
        });
        test(13, "how many KEYS it has then", () -> {
            Keys x = told("u10;a0;b99;");
            x.flip(0, 0, 1023);
            due(x.join(0, 0, 1, 1), 1);
            due(x.join(3, 0, 1, 1), 1022);
            due(x.join(3, 1, 0, 0), 0);
            due(x.end(0, 0), NONE);
            due(x.join(1, 0, 0, 1), 0);
            due(x.join(2, 0, 1, 0), 0);
            due(x.kind(1), 4);
        });
    }

    static void shifting() {
        test(14, "SHIFTED by v (-9999 to 9999)", () -> {
            span(-9999, 9999, (x, v) -> x.shift(1, v));
            due(busy().shift(1, 9999), 0);
            due(busy().shift(1, -9999), 0);
        });
        test(14, "BAD.", () -> {
            span(0, 3, (x, set) -> x.shift(set, 1));
            noShelf(x -> x.shift(0, 0));
        });
        test(14, "what would be no KEY is lost", () -> {
            for (int bits = 2; bits <= 10; bits++) {
                int top = 1 << bits;
                Keys x = told("u" + bits + ";a0,1,2;");
                due(x.add(0, top - 1), 4);
                due(x.shift(0, 1), 3);
                due(x.end(0, 0), 1);
                x.undo();
                due(x.shift(0, -1), 3);
                due(x.end(0, 1), top - 2);
                x.undo();
                due(x.shift(0, top - 1), 1);
                due(x.end(0, 0), top - 1);
                x.undo();
                due(x.shift(0, 1 - top), 1);
                due(x.end(0, 1), 0);
                x.undo();
                due(x.shift(0, top), 0);
                x.undo();
                due(x.shift(0, -top), 0);
                x.undo();
                due(x.keys(0), 4);
                due(x.shift(0, 0), 4);
                due(x.count(5), 2);
            }
        });
        test(14, "each KEY by v more; what would be no KEY is lost", () -> {
            Keys x = told("u7;a0,31,32,63,64,99;");
            due(x.shift(0, 28), 6);
            dueKeys(x, 0, 28, 59, 60, 91, 92, 127);
            due(x.shift(0, 1), 5);
            due(x.shift(0, -1), 5);
            dueKeys(x, 0, 28, 59, 60, 91, 92);
            due(x.shift(0, 32), 5);
            dueKeys(x, 0, 60, 91, 92, 123, 124);
            due(x.shift(0, -64), 4);
            dueKeys(x, 0, 27, 28, 59, 60);
            due(x.shift(0, -28), 3);
            dueKeys(x, 0, 0, 31, 32);
        });
    }

    /** SETS of 16 KEYS; ROW 0: 1, 3, 3, 15, 0; ROW 1: 15, 16; ROW 2: -1, 0; ROW 3: 40 ITEMS, 2 at the last place. */
    static Keys gatherable() {
        Keys x = told("u4;a1;b7;");
        int[] items = {1, 3, 3, 15, 0};
        x.row(0, 2, 5);
        for (int i = 0; i < 5; i++) {
            x.set(0, i, items[i]);
        }
        x.row(1, 1, 2);
        x.set(1, 0, 15);
        x.set(1, 1, 16);
        x.row(2, 0, 2);
        x.set(2, 0, -1);
        x.row(3, 2, 40);
        x.set(3, 39, 2);
        x.row(4, 2, 0);
        return x;
    }

    static void gathering() {
        test(15, "n ITEMS (1 to 40) of a ROW", () -> {
            span(1, 40, (x, n) -> x.gather(0, 4, 0, n));
            Keys x = gatherable();
            due(x.gather(0, 3, 39, 1), 2);
            due(x.gather(1, 3, 0, 40), 3);
            dueKeys(x, 0, 1, 2);
            dueKeys(x, 1, 0, 2, 7);
        });
        test(15, "BAD: SET, ROW, n", () -> {
            span(0, 3, (x, set) -> x.gather(set, 4, 0, 1));
            span(0, 7, (x, row) -> x.gather(0, row, 0, 1));
            noShelf(x -> x.gather(0, 0, 0, 1));
            still(() -> {
                Keys x = fresh();
                x.row(0, 0, 1);
                return x;
            }, x -> x.gather(0, 0, 0, 1), BAD);
        });
        test(15, "BAD: SET, ROW, n; NULL; PLACE; PLACE", () -> {
            stillBusy(x -> x.gather(0, 5, 0, 1), NULL);
            stillBusy(x -> x.gather(0, 7, -1, 40), NULL);
            stillBusy(x -> x.gather(0, 5, 0, 0), BAD);
            stillBusy(x -> x.gather(0, 5, 0, 41), BAD);
            stillBusy(x -> x.gather(4, 5, 0, 1), BAD);
            stillBusy(x -> x.gather(0, 0, 9, 41), BAD);
            stillBusy(x -> x.gather(-1, 0, 1, 1), BAD);
        });
        test(15, "(those that are there stay): how many there are then", () -> {
            Keys x = gatherable();
            due(x.gather(0, 0, 0, 1), 1);
            due(x.count(5), 1);
            due(x.gather(0, 0, 0, 5), 4);
            dueKeys(x, 0, 0, 1, 3, 15);
            dueKeys(x, 1, 7);
            due(x.count(5), 2);
            due(x.undo(), 1);
            dueKeys(x, 0, 1);
            due(x.undo(), 0);
            dueKeys(x, 0, 1);
        });
    }

    static void gatherPlaces() {
        test(15, "PLACE (no such place of a ROW)", () -> {
            int[][] wrong = {{0, -1, 1}, {0, 5, 1}, {0, 4, 2}, {0, 0, 6}, {0, -1, 5}, {3, 40, 1}, {3, 1, 40}, {4, 0, 1},
                {0, MAX, 1}, {0, MAX, 40}, {0, MIN, 1}, {0, MIN, 40}, {0, MAX - 39, 40}};
            for (int[] w : wrong) {
                still(ActEdges::gatherable, x -> x.gather(0, w[0], w[1], w[2]), PLACE);
            }
            due(gatherable().gather(0, 0, 4, 1), 2);
            due(gatherable().gather(0, 0, 0, 5), 4);
            due(gatherable().gather(0, 0, 3, 2), 3);
        });
        test(15, "PLACE: an ITEM that is no KEY.", () -> {
            due(gatherable().gather(0, 1, 0, 1), 2);
            still(ActEdges::gatherable, x -> x.gather(0, 1, 0, 2), PLACE);
            still(ActEdges::gatherable, x -> x.gather(0, 1, 1, 1), PLACE);
            still(ActEdges::gatherable, x -> x.gather(0, 2, 0, 1), PLACE);
            still(ActEdges::gatherable, x -> x.gather(0, 2, 0, 2), PLACE);
            due(gatherable().gather(0, 2, 1, 1), 2);
            Keys x = gatherable();
            x.set(0, 4, MIN);
            due(x.gather(0, 0, 0, 5), PLACE);
            x.set(0, 4, MAX);
            due(x.gather(0, 0, 0, 5), PLACE);
            dueKeys(x, 0, 1);
            due(x.count(5), 0);
        });
        test(15, "KEYS 0 to TOP less 1", () -> {
            for (int bits = 2; bits <= 10; bits++) {
                Keys x = told("u" + bits + ";a1;");
                x.row(0, 2, 1);
                x.set(0, 0, 1 << bits);
                due(x.gather(0, 0, 0, 1), PLACE);
                x.set(0, 0, (1 << bits) - 1);
                due(x.gather(0, 0, 0, 1), 2);
                due(x.end(0, 1), (1 << bits) - 1);
            }
        });
    }
}
