import java.util.ArrayList;
import java.util.List;

/**
 * Ways of looking at all that an object holds, by its answers alone: two objects that answer the same in each of them
 * hold the same, but for status(). A look may wear its object out, so each is taken at an object of its own.
 */
enum Looks {
    COUNTS, SETS, ROWS, TAPE, ACTS, IMAGES;

    private static final int ROWS_THERE = 8, SETS_THERE = 4, ITEMS_READ = 6;

    List<Long> at(Keys x) {
        List<Long> seen = new ArrayList<>();
        switch (this) {
            case COUNTS -> counts(x, seen);
            case SETS -> sets(x, 32, seen);
            case ROWS -> rows(x, seen);
            case TAPE -> tape(x, seen);
            case ACTS -> acts(x, seen);
            default -> images(x, seen);
        }
        return seen;
    }

    private static void counts(Keys x, List<Long> seen) {
        for (int what = 0; what <= 6; what++) {
            see(seen, x.count(what));
        }
        see(seen, x.fault());
        for (int i = 0; i <= 16; i++) {
            see(seen, x.trace(i));
        }
    }

    private static void sets(Keys x, int words, List<Long> seen) {
        see(seen, x.count(2));
        for (int set = 0; set < SETS_THERE; set++) {
            see(seen, x.kind(set));
        }
        words(x, words, seen);
    }

    private static void words(Keys x, int words, List<Long> seen) {
        for (int set = 0; set < SETS_THERE; set++) {
            for (int i = 0; i < words; i++) {
                see(seen, x.word(set, 0, i));
            }
        }
    }

    /** No call reads an ITEM, so each is gathered into an EMPTY SET of 1024 KEYS, and that is undone. */
    private static void rows(Keys x, List<Long> seen) {
        x.shelf();
        Edges.read(x, "u10;a0;");
        x.take(0, 0);
        for (int row = 0; row < ROWS_THERE; row++) {
            for (int i = 0; i < ITEMS_READ; i++) {
                boolean isKey = x.gather(0, row, i, 1) == 1;
                see(seen, x.end(0, 0));
                if (isKey) {
                    x.undo();
                }
            }
            longRow(x, row, seen);
            see(seen, x.set(row, 0, 0x12345));
        }
        lanes(x, seen);
        for (int row = 0; row < ROWS_THERE - 1; row++) {
            see(seen, x.drop(row));
        }
    }

    /** What a ROW of 40 ITEMS has behind those that are read one by one, together: there are not calls enough. */
    private static void longRow(Keys x, int row, List<Long> seen) {
        boolean all = x.gather(0, row, ITEMS_READ, 40 - ITEMS_READ) >= 0;
        see(seen, x.keys(0));
        see(seen, x.share(0, 1));
        if (all) {
            x.undo();
        }
    }

    /** Also of a ROW without ITEMS: the last one, in each LANE in turn, is a store for it, or none. */
    private static void lanes(Keys x, List<Long> seen) {
        int last = ROWS_THERE - 1;
        see(seen, x.drop(last));
        for (int lane = 0; lane <= 2; lane++) {
            x.row(last, lane, 0);
            for (int row = 0; row < last; row++) {
                see(seen, x.copy(row, 0, last, 0, 0));
            }
        }
    }

    private static void tape(Keys x, List<Long> seen) {
        see(seen, x.count(6));
        see(seen, x.shelf());
        see(seen, x.fault());
        sets(x, 2, seen);
    }

    private static void acts(Keys x, List<Long> seen) {
        int left = x.undo();
        for (int i = 0; i < 24 && left >= 0; i++) {
            see(seen, left);
            words(x, 2, seen);
            left = x.undo();
        }
        see(seen, left);
    }

    private static void images(Keys x, List<Long> seen) {
        for (int k = 0; k < 2; k++) {
            see(seen, x.restore(k));
            sets(x, 2, seen);
        }
    }

    private static void see(List<Long> seen, long answer) {
        seen.add(answer);
    }
}
