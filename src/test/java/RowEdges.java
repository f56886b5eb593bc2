/** Promises 2 to 5: ROWS. */
final class RowEdges extends Edges {
    static void all() {
        rows();
        sizes();
        sets();
        copies();
        copyPlaces();
        drops();
    }

    static void rows() {
        test(2, "ROWS 0 .. 7 are missing (at first)", () -> {
            for (int row = 0; row <= 7; row++) {
                int one = row;
                still(Edges::fresh, x -> x.drop(one), NULL);
            }
            due(fresh().count(0), 0);
        });
        test(2, "BAD: ROW", () -> {
            span(0, 7, (x, row) -> x.row(row, 0, 1));
            Keys x = fresh();
            for (int row = 0; row <= 7; row++) {
                due(x.row(row, 0, row), row);
                due(x.count(0), row + 1);
            }
        });
        test(2, "BAD: ROW, LANE", () -> span(0, 2, (x, lane) -> x.row(0, lane, 1)));
        test(2, "a LANE (0 bytes, 1 shorts, 2 ints)", () -> {
            int[] kept = {0x78, 0x5678, 0x12345678};
            for (int lane = 0; lane <= 2; lane++) {
                Keys x = fresh();
                due(x.row(0, lane, 1), 1);
                due(x.set(0, 0, 0x12345678), kept[lane]);
            }
        });
        test(2, "0 to 40 ITEMS, 0 at first", () -> {
            Keys x = told("u10;a1;");
            x.row(0, 2, 40);
            due(x.gather(0, 0, 0, 40), 2);
            due(x.contains(0, 0), 1);
        });
        test(2, "in place of what is there", () -> {
            Keys x = told("u10;a1;");
            x.row(0, 2, 40);
            for (int i = 0; i < 40; i++) {
                x.set(0, i, 900 + i);
            }
            due(x.row(0, 1, 39), 39);
            due(x.count(0), 1);
            due(x.gather(0, 0, 0, 39), 2);
            due(x.contains(0, 0), 1);
            due(x.set(0, 39, 1), PLACE);
            due(x.set(0, 38, 65535), -1);
        });
    }

    static void sizes() {
        test(2, "0 to 40 ITEMS", () -> {
            Keys x = fresh();
            due(x.row(0, 2, 0), 0);
            due(x.set(0, 0, 1), PLACE);
            due(x.row(0, 2, 1), 1);
            due(x.set(0, 0, 1), 1);
            due(x.row(0, 2, 40), 40);
            due(x.set(0, 39, 1), 1);
            due(x.set(0, 40, 1), PLACE);
        });
        test(2, "n above 40", () -> {
            stillBusy(x -> x.row(0, 0, 41), BAD);
            stillBusy(x -> x.row(0, 0, MAX), BAD);
        });
        test(2, "SIZE", () -> {
            stillBusy(x -> x.row(0, 0, -1), SIZE);
            stillBusy(x -> x.row(7, 2, MIN), SIZE);
            still(Edges::fresh, x -> x.row(0, 0, -1), SIZE);
        });
        test(2, "BAD: ROW, LANE, n above 40; SIZE.", () -> {
            stillBusy(x -> x.row(8, 0, -1), BAD);
            stillBusy(x -> x.row(-1, 0, -1), BAD);
            stillBusy(x -> x.row(0, 3, -1), BAD);
            stillBusy(x -> x.row(0, -1, -1), BAD);
        });
    }

    static void sets() {
        test(3, "BAD: ROW", () -> span(0, 7, (x, row) -> x.set(row, 0, 1)));
        test(3, "NULL", () -> {
            for (int row = 5; row <= 7; row++) {
                int one = row;
                stillBusy(x -> x.set(one, 0, 1), NULL);
            }
        });
        test(3, "BAD: ROW; NULL; PLACE.", () -> {
            stillBusy(x -> x.set(5, -1, 1), NULL);
            stillBusy(x -> x.set(5, 40, 1), NULL);
            stillBusy(x -> x.set(8, -1, 1), BAD);
        });
        test(3, "PLACE", () -> {
            int[] ends = {4, 3, 2, 0, 40};
            for (int row = 0; row < 5; row++) {
                int one = row;
                int end = ends[row];
                stillBusy(x -> x.set(one, end, 1), PLACE);
                stillBusy(x -> x.set(one, -1, 1), PLACE);
                stillBusy(x -> x.set(one, MIN, 1), PLACE);
                stillBusy(x -> x.set(one, MAX, 1), PLACE);
                if (end > 0) {
                    due(busy().set(one, 0, 8), 8);
                    due(busy().set(one, end - 1, 8), 8);
                }
            }
        });
        test(3, "its lowest bits, as many as the LANE has: what it is then", () -> {
            Keys x = fresh();
            x.row(0, 0, 1);
            x.row(1, 1, 1);
            x.row(2, 2, 1);
            int[][] due = {{127, 127, 127, 127}, {128, -128, 128, 128}, {-128, -128, -128, -128},
                {-129, 127, -129, -129}, {255, -1, 255, 255}, {256, 0, 256, 256}, {32767, -1, 32767, 32767},
                {32768, 0, -32768, 32768}, {-32768, 0, -32768, -32768}, {-32769, -1, 32767, -32769},
                {65535, -1, -1, 65535}, {65536, 0, 0, 65536}, {MAX, -1, -1, MAX},
                {MIN, 0, 0, MIN}};
            for (int[] each : due) {
                for (int lane = 0; lane <= 2; lane++) {
                    due(x.set(lane, 0, each[0]), each[1 + lane]);
                }
            }
        });
    }

    /** SET 0 of 32 KEYS; ROWS 0 (ints 10 to 14), 1 (three ints), 2 (shorts), 3 (no int). */
    static Keys copyable() {
        Keys x = told("u5;a31;");
        x.row(0, 2, 5);
        for (int i = 0; i < 5; i++) {
            x.set(0, i, 10 + i);
        }
        x.row(1, 2, 3);
        x.row(2, 1, 5);
        x.row(3, 2, 0);
        return x;
    }

    static void copies() {
        test(4, "BAD: ROWS", () -> {
            span(0, 7, (x, row) -> x.copy(row, 0, 0, 0, 0));
            span(0, 7, (x, row) -> x.copy(0, 0, row, 0, 0));
        });
        test(4, "BAD: ROWS; NULL", () -> {
            stillBusy(x -> x.copy(5, 0, 0, 0, 0), NULL);
            stillBusy(x -> x.copy(0, 0, 7, 0, 0), NULL);
            stillBusy(x -> x.copy(5, 0, 6, 0, 0), NULL);
            stillBusy(x -> x.copy(5, 0, 5, 0, 0), NULL);
            stillBusy(x -> x.copy(5, 0, 8, 0, 0), BAD);
            stillBusy(x -> x.copy(-1, 0, 5, 0, 0), BAD);
        });
        test(4, "NULL; STORE; PLACE", () -> {
            stillBusy(x -> x.copy(5, -1, 0, 99, -1), NULL);
            stillBusy(x -> x.copy(0, -1, 1, 0, 1), STORE);
            stillBusy(x -> x.copy(0, 0, 1, 0, -1), STORE);
            stillBusy(x -> x.copy(0, 0, 2, 99, 99), STORE);
            stillBusy(x -> x.copy(-1, -1, 1, 0, 1), BAD);
        });
        test(4, "STORE (ROWS of two LANES)", () -> {
            int[] lanes = {2, 1, 0};
            for (int a = 0; a <= 2; a++) {
                for (int b = 0; b <= 2; b++) {
                    int from = a;
                    int to = b;
                    if (lanes[a] == lanes[b]) {
                        due(busy().copy(from, 0, to, 0, 1), 1);
                    } else {
                        stillBusy(x -> x.copy(from, 0, to, 0, 1), STORE);
                        stillBusy(x -> x.copy(from, 0, to, 0, 0), STORE);
                    }
                }
            }
        });
        test(4, "as they were ahead", () -> {
            Keys x = copyable();
            due(x.copy(0, 0, 0, 1, 4), 4);
            dueItems(x, 0, 10, 10, 11, 12, 13);
            due(x.copy(0, 1, 0, 0, 4), 4);
            dueItems(x, 0, 10, 11, 12, 13, 13);
            due(x.copy(0, 0, 0, 0, 5), 5);
            dueItems(x, 0, 10, 11, 12, 13, 13);
        });
    }

    static void copyPlaces() {
        test(4, "n ITEMS of a from i on come to b from j on", () -> {
            Keys x = copyable();
            due(x.copy(0, 2, 1, 0, 3), 3);
            dueItems(x, 1, 12, 13, 14);
            due(x.copy(0, 0, 1, 2, 1), 1);
            dueItems(x, 1, 12, 13, 10);
            due(x.copy(0, 0, 1, 0, 0), 0);
            due(x.copy(0, 5, 1, 3, 0), 0);
            due(x.copy(3, 0, 3, 0, 0), 0);
            dueItems(x, 0, 10, 11, 12, 13, 14);
            dueItems(x, 1, 12, 13, 10);
        });
        test(4, "PLACE (i, j, n below 0, or beyond an end)", () -> {
            int[][] wrong = {{0, -1, 1, 0, 1}, {0, 0, 1, -1, 1}, {0, 0, 1, 0, -1}, {0, 5, 1, 0, 1}, {0, 6, 1, 0, 0},
                {0, 0, 1, 3, 1}, {0, 0, 1, 4, 0}, {0, 3, 1, 0, 3}, {0, 0, 1, 1, 3}, {0, 0, 1, 0, 4}, {1, 0, 0, 0, 4},
                {0, -1, 1, 0, 0}, {0, 0, 1, -1, 0}, {3, 0, 3, 0, 1}, {3, 1, 3, 0, 0}, {3, 0, 3, 1, 0},
                {0, 0, 0, 0, 6}, {0, 0, 0, 0, 41}, {0, MAX, 1, 0, 1}, {0, 1, 1, 0, MAX},
                {0, MAX, 1, MAX, MAX}, {0, MIN, 1, MIN, MIN},
                {0, MIN, 1, 0, 0}, {0, 0, 1, MIN, 0}, {0, 1, 0, 0, -1}, {0, 5, 0, 5, -5},
                {0, -1, 0, -1, 1}, {0, MIN, 0, 0, MAX}};
            for (int[] w : wrong) {
                still(RowEdges::copyable, x -> x.copy(w[0], w[1], w[2], w[3], w[4]), PLACE);
            }
        });
    }

    static void drops() {
        test(5, "BAD; NULL.", () -> {
            span(0, 7, (x, row) -> x.drop(row));
            stillBusy(x -> x.drop(5), NULL);
            stillBusy(x -> x.drop(7), NULL);
        });
        test(5, "A ROW is missing from now on: how many ITEMS it had", () -> {
            Keys x = fresh();
            x.row(0, 0, 0);
            x.row(7, 2, 40);
            due(x.drop(0), 0);
            due(x.count(0), 1);
            due(x.drop(0), NULL);
            due(x.set(0, 0, 1), NULL);
            due(x.copy(0, 0, 7, 0, 0), NULL);
            due(x.drop(7), 40);
            due(x.drop(7), NULL);
            due(x.count(0), 0);
            due(x.row(7, 2, 1), 1);
            due(x.drop(7), 1);
        });
    }
}
