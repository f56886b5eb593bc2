/** Promises 1 and 40 to 45: a new object; what is asked. */
final class AskedEdges extends Edges {
    static void all() {
        newObject();
        looksSeeAll();
        kinds();
        asks();
        traces();
        counts();
        statuses();
        orders();
        statusStays();
    }

    static void newObject() {
        test(1, "No SHELF.", () -> {
            Keys x = fresh();
            for (int what = 0; what <= 6; what++) {
                due(x.count(what), 0);
            }
            due(x.fault(), 0);
            due(x.status(), 0);
            due(x.trace(0), NONE);
            due(x.undo(), STATE);
            due(x.keys(0), BAD);
            due(x.kind(0), BAD);
            due(x.image(0), STATE);
            due(x.restore(0), STATE);
            due(x.restore(1), STATE);
        });
    }

    /** Each of these changes something: a look that does not see it could not tell that a refused call does. */
    static void looksSeeAll() {
        test(1, "What is refused, or found, changes nothing but status().", () -> {
            Call[] changes = {x -> x.row(0, 2, 4), x -> x.row(0, 1, 4), x -> x.row(5, 0, 0), x -> x.set(0, 3, 7),
                x -> x.set(2, 1, 8), x -> x.set(4, 6, 8), x -> x.set(4, 39, 8), x -> x.copy(0, 0, 4, 0, 1),
                x -> x.drop(3), x -> x.drop(4), x -> x.row(3, 1, 0), x -> x.feed(0), x -> x.shelf(), x -> x.undo(),
                x -> x.add(0, 0), x -> x.take(1, 63),
                x -> x.flip(3, 63, 63), x -> x.join(0, 0, 0, 0), x -> x.shift(2, 0), x -> x.gather(0, 0, 0, 1),
                x -> x.tell(0, 0, 1, 1), x -> x.image(0), x -> x.image(1), x -> x.restore(0), x -> x.ask(3, 1),
                x -> read(x, "z")};
            for (Call each : changes) {
                due(seen(each) ? 1 : 0, 1);
            }
            due(seen(x -> x.keys(0)) ? 1 : 0, 0);
        });
    }

    static boolean seen(Call call) {
        for (Looks look : Looks.values()) {
            Keys x = busy();
            call.on(x);
            if (!look.at(x).equals(look.at(busy()))) {
                return true;
            }
        }
        return false;
    }

    static void kinds() {
        test(40, "The KIND of a SET, as told (1 to 5). BAD.", () -> {
            span(0, 3, (x, one) -> x.kind(one));
            noShelf(x -> x.kind(0));
            stillBusy(x -> x.kind(0), 1);
            stillBusy(x -> x.kind(3), 5);
            for (int sort = 0; sort < 5; sort++) {
                Keys x = told("u2;a0;" + "arcbd".charAt(sort) + "0;");
                due(x.kind(1), sort + 1);
                x.join(0, 0, 0, 1);
                due(x.kind(1), sort + 1);
                due(x.kind(2), BAD);
            }
        });
        test(41, "(0 .. 5): its number. BAD", () -> {
            span(0, 5, (x, kind) -> x.as(0, kind));
            span(0, 3, (x, one) -> x.as(one, 0));
            noShelf(x -> x.as(0, 0));
            stillBusy(x -> x.as(4, 5), BAD);
            stillBusy(x -> x.as(0, 6), BAD);
        });
        test(41, "KIND: it is no such one.", () -> {
            String[] such = {"01", "012", "013", "04", "045"};
            for (int sort = 0; sort < 5; sort++) {
                String text = "u2;b0;" + "arcbd".charAt(sort) + "0;";
                for (int kind = 0; kind <= 5; kind++) {
                    int one = kind;
                    boolean is = such[sort].indexOf('0' + kind) >= 0;
                    if (is) {
                        Keys x = told(text);
                        x.row(0, 0, -1);
                        due(x.as(1, one), 1);
                        due(x.status(), 0);
                    } else {
                        still(() -> told(text), x -> x.as(1, one), KIND);
                    }
                }
            }
        });
    }

    /** The answer and THE TRACE, whole. */
    static void dueAsk(Keys x, int one, int what, int answer, int... trace) {
        due(x.ask(one, what), answer);
        for (int i = 0; i <= 16; i++) {
            due(x.trace(i), i < trace.length ? trace[i] : NONE);
        }
    }

    static void asks() {
        test(42, "An ASK (0, 1) of a SET. BAD.", () -> {
            span(0, 3, (x, one) -> x.ask(one, 0));
            span(0, 1, (x, what) -> x.ask(0, what));
            noShelf(x -> x.ask(0, 0));
        });
        test(42, "THE TRACE is empty ahead of it.", () -> {
            Keys x = told("u6;r4,5,6;b9;");
            dueAsk(x, 0, 0, -(3 + 2 * 4), 12, 11, 10, 24, 21, 20);
            dueAsk(x, 1, 0, 1 - 100, 13, 10);
            dueAsk(x, 1, 0, 1 - 100, 13, 10);
        });
        test(42, "its LEAST (0, if it is EMPTY)", () -> {
            for (int sort = 0; sort < 3; sort++) {
                Keys x = told("u6;b0;" + "arc".charAt(sort) + "1;");
                int[] due = {1 + 1, 2 * (1 + 1), 1 + 1 - 1000};
                int[] empty = {1, 2, 1 - 1000};
                due(x.ask(1, 1), due[sort]);
                x.shift(1, -1);
                due(x.ask(1, 1), empty[sort]);
                x.shift(1, -1);
                due(x.keys(1), 0);
                due(x.ask(1, 1), empty[sort]);
                x.flip(1, 63, 63);
                due(x.ask(1, 1), sort == 0 ? 64 : sort == 1 ? 128 : 64 - 1000);
            }
        });
        test(42, "Of an ask the BODY told for the KIND begins, else that of the nearest KIND that it is, too", () -> {
            Keys x = told("u6;a7;r7;c7;d7;");
            dueAsk(x, 0, 0, 1 + 7, 11, 10, 21, 20);
            dueAsk(x, 0, 1, 7, 21, 20);
            dueAsk(x, 1, 0, -(1 + 2 * 8), 12, 11, 10, 24, 21, 20);
            dueAsk(x, 1, 1, 2 * 8, 24, 21, 20);
            dueAsk(x, 2, 0, 1 + 9 - 1000, 11, 10, 22, 21, 20);
            dueAsk(x, 2, 1, 9 - 1000, 22, 21, 20);
            dueAsk(x, 3, 0, -198, 14, 13, 10);
            dueAsk(x, 3, 1, 3 + 198, 23, 20, 14, 13, 10);
            Keys y = told("u6;a1;b9,10;");
            dueAsk(y, 1, 0, -98, 13, 10);
            dueAsk(y, 1, 1, 1 + 98, 23, 20, 13, 10);
        });
        test(42, "how many KEYS it has", () -> {
            Keys x = told("u10;a0;r0;b0;d0;");
            for (int set = 0; set < 4; set++) {
                x.flip(set, 0, 1023);
                x.add(set, 0);
            }
            due(x.ask(0, 0), 1024);
            due(x.ask(1, 0), -(1024 + 2));
            due(x.ask(2, 0), 924);
            due(x.ask(3, 0), 1848);
            due(x.ask(3, 1), 3 - 1848);
            for (int set = 0; set < 4; set++) {
                x.shift(set, 9999);
            }
            due(x.ask(0, 0), 0);
            due(x.ask(1, 0), -2);
            due(x.ask(2, 0), -100);
            due(x.ask(3, 0), -200);
            due(x.ask(3, 1), 203);
        });
    }

    static void traces() {
        test(43, "Number i of THE TRACE; NONE.", () -> {
            for (int i : new int[] {4, 15, 16, 17, -1, MIN, MAX}) {
                stillBusy(x -> x.trace(i), NONE);
            }
            stillBusy(x -> x.trace(0), 11);
            stillBusy(x -> x.trace(3), 20);
            for (int i : new int[] {0, -1, 15, 16}) {
                still(Edges::fresh, x -> x.trace(i), NONE);
            }
        });
        // no ASK leaves more than 6 numbers, so the 16th place is never reached
        test(43, "each of which leaves its number in THE TRACE as it begins (the first 16)", () -> {
            Keys x = told("u6;r4;");
            int[] due = {12, 11, 10, 24, 21, 20, NONE};
            x.ask(0, 0);
            for (int i = 0; i < due.length; i++) {
                due(x.trace(i), due[i]);
            }
            due(x.trace(15), NONE);
            due(x.trace(16), NONE);
        });
        test(43, "THE TRACE", () -> {
            Keys x = busy();
            due(x.ask(4, 0), BAD);
            due(x.ask(0, 2), BAD);
            due(x.trace(0), 11);
            x.shelf();
            due(x.trace(0), 11);
            x.restore(0);
            due(x.trace(0), 11);
        });
    }

    static void counts() {
        test(44, "5 ACTS that can be undone, 6 bytes on the tape. BAD.", () -> {
            span(0, 6, (x, what) -> x.count(what));
            int[] due = {5, 4, 6, -1, -1, 24, 6};
            for (int what = 0; what <= 6; what++) {
                int one = what;
                if (due[what] >= 0) {
                    stillBusy(x -> x.count(one), due[one]);
                }
            }
        });
        test(44, "2 BITS (0 without a SHELF)", () -> {
            for (int what = 0; what <= 6; what++) {
                int one = what;
                still(Edges::fresh, x -> x.count(one), 0);
            }
            noShelf(x -> x.count(7));
            noShelf(x -> x.count(-1));
        });
        test(44, "0 ROWS, 1 SETS, 2 BITS", () -> {
            Keys x = fresh();
            for (int row = 0; row <= 7; row++) {
                x.row(row, 0, 0);
                due(x.count(0), row + 1);
            }
            x.row(7, 1, 1);
            due(x.count(0), 8);
            x.drop(0);
            due(x.count(0), 7);
            for (int sets = 1; sets <= 4; sets++) {
                due(told("u2;" + "b3;".repeat(sets)).count(1), sets);
            }
            for (int bits = 2; bits <= 10; bits++) {
                due(told("u" + bits + ";c0;").count(2), bits);
            }
        });
        test(44, "3 KEYS of all SETS, 4 NODES of all", () -> {
            Keys x = told("u10;a0;b0;c0;d0;");
            due(x.count(3), 4);
            due(x.count(4), 4);
            for (int set = 0; set < 4; set++) {
                x.take(set, 0);
                due(x.count(3), 3 - set);
                due(x.count(4), 3 - set);
            }
            for (int set = 0; set < 4; set++) {
                x.flip(set, 0, 1023);
                due(x.count(3), 1024 * (set + 1));
                due(x.count(4), (set + 1) * x.tree(0, 0));
            }
        });
        test(44, "5 ACTS that can be undone", () -> {
            Keys x = told("u2;a0;");
            for (int i = 1; i <= 26; i++) {
                x.flip(0, 0, 0);
                due(x.count(5), Math.min(i, 24));
            }
            x.undo();
            due(x.count(5), 23);
        });
        test(44, "6 bytes on the tape", () -> {
            Keys x = fresh();
            for (int i = 1; i <= 112; i++) {
                x.feed('0');
                due(x.count(6), Math.min(i, 110));
            }
            x.shelf();
            due(x.count(6), 0);
        });
    }

    static void statuses() {
        test(45, "the number of its FINDING", () -> {
            Call[] found = {x -> x.set(5, 0, 0), x -> x.copy(5, 0, 0, 0, 0), x -> x.drop(5), x -> x.gather(0, 5, 0, 1),
                x -> x.tell(0, 0, 5, 0), x -> x.set(0, 4, 0), x -> x.copy(0, 0, 0, 0, 5), x -> x.gather(0, 0, 4, 1),
                x -> x.gather(0, 0, 1, 1), x -> x.tell(0, 0, 0, 5), x -> x.as(0, 4), x -> x.row(0, 0, -1),
                x -> x.copy(0, 0, 1, 0, 0)};
            int[] numbers = {1, 1, 1, 1, 1, 2, 2, 2, 2, 2, 3, 4, 5};
            for (int i = 0; i < found.length; i++) {
                Keys x = busy();
                due(x.status(), 0);
                due(found[i].on(x), -1000010 - numbers[i]);
                due(x.status(), numbers[i]);
                due(x.status(), numbers[i]);
                due(found[(i + 5) % found.length].on(x), -1000010 - numbers[(i + 5) % found.length]);
                due(x.status(), numbers[(i + 5) % found.length]);
            }
        });
        test(45, "0: it had none, or there was none.", () -> {
            due(fresh().status(), 0);
            Call[] fine = {x -> x.row(0, 0, 0), x -> x.set(0, 0, 0), x -> x.copy(0, 0, 0, 0, 0), x -> x.drop(0),
                x -> x.gather(0, 0, 0, 1), x -> x.tell(0, 0, 0, 4), x -> x.as(0, 0)};
            for (Call each : fine) {
                Keys x = busy();
                x.drop(7);
                due(x.status(), 1);
                each.on(x);
                due(x.status(), 0);
            }
        });
    }

    /** Of a call that more than one refusal, or FINDING, fits. */
    static void orders() {
        test(45, "then FINDINGS, of several the first in time", () -> {
            stillBusy(x -> x.row(8, 3, 41), BAD);
            stillBusy(x -> x.row(0, 3, -1), BAD);
            stillBusy(x -> x.set(5, -1, 0), NULL);
            stillBusy(x -> x.copy(0, -1, 5, -1, -1), NULL);
            stillBusy(x -> x.copy(5, -1, 1, -1, -1), NULL);
            stillBusy(x -> x.copy(0, -1, 1, -1, -1), STORE);
            stillBusy(x -> x.copy(8, -1, 5, -1, -1), BAD);
            stillBusy(x -> x.gather(0, 5, -1, 1), NULL);
            stillBusy(x -> x.gather(0, 0, 1, 4), PLACE);
            stillBusy(x -> x.gather(4, 5, -1, 1), BAD);
            stillBusy(x -> x.tell(0, 0, 5, -1), NULL);
            stillBusy(x -> x.tell(0, -1, 5, -1), BAD);
            stillBusy(x -> x.as(4, 4), BAD);
            stillBusy(x -> x.as(0, 6), BAD);
        });
        test(45, "the first of these that fits, but as told: BAD", () -> {
            stillBusy(x -> x.add(4, 3), BAD);
            stillBusy(x -> x.take(4, 0), BAD);
            stillBusy(x -> x.likely(0, 5, 3, 11, 0), BAD);
            still(Edges::fresh, x -> x.image(2), BAD);
            still(Edges::fresh, x -> x.restore(2), BAD);
            still(Edges::fresh, x -> x.drawn(-1, 0, 2), STATE);
            still(Edges::overfed, x -> x.feed(256), BAD);
        });
    }

    static void statusStays() {
        test(45, "Of the latest call with a ROW, or as(), that was not BAD, STATE, FULL", () -> {
            Call[] refused = {x -> x.row(8, 0, 0), x -> x.row(0, 3, 0), x -> x.row(0, 0, 41), x -> x.set(8, 0, 0),
                x -> x.copy(8, 0, 0, 0, 0), x -> x.copy(0, 0, -1, 0, 0), x -> x.drop(8), x -> x.gather(0, 8, 0, 1),
                x -> x.gather(4, 0, 0, 1), x -> x.gather(0, 0, 0, 41), x -> x.tell(0, 0, 8, 0), x -> x.tell(4, 0, 0, 0),
                x -> x.tell(0, 64, 0, 0), x -> x.as(4, 0), x -> x.as(0, 6)};
            for (Call each : refused) {
                stillBusy(each, BAD);
            }
        });
        test(45, "Of the latest call with a ROW, or as()", () -> {
            Call[] others = {x -> x.feed('u'), x -> x.feed(256), x -> x.shelf(), x -> x.fault(), x -> x.undo(),
                x -> x.add(0, 0), x -> x.add(0, 3), x -> x.take(0, 3), x -> x.take(0, 0), x -> x.flip(0, 0, 1),
                x -> x.join(0, 0, 0, 0), x -> x.shift(0, 1), x -> x.contains(0, 0), x -> x.keys(0), x -> x.end(2, 0),
                x -> x.next(0, 0), x -> x.beside(0, 0, 0), x -> x.steps(0, 0), x -> x.tree(0, 0),
                x -> x.cluster(0, 0, 0), x -> x.summary(0, 0), x -> x.word(0, 0, 0), x -> x.bits(0, 0, 0, 0),
                x -> x.share(0, 0), x -> x.rank(0, 0), x -> x.nth(0, 0), x -> x.near(0, 0), x -> x.chase(0, 0, 0, 1),
                x -> x.meet(0), x -> x.cover(0, 0, 0), x -> x.gap(0, 0), x -> x.likely(0, 3, 4, 5, 0),
                x -> x.drawn(1, 1, 0), x -> x.image(0), x -> x.restore(1), x -> x.kind(0), x -> x.ask(0, 0),
                x -> x.trace(0), x -> x.count(0), x -> x.status()};
            for (Call each : others) {
                Keys x = busy();
                x.as(0, 4);
                each.on(x);
                due(x.status(), 3);
                x.as(0, 0);
                each.on(x);
                due(x.status(), 0);
            }
        });
    }
}
