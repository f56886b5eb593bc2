/** Promises 6 to 8: what is told. */
final class TextEdges extends Edges {
    static void all() {
        feeding();
        tokens();
        laws();
        setsTold();
        keysTold();
        faultOrder();
        strays();
        ends();
        shelves();
        faults();
    }

    /** The text has a FAULT of that number at that place, the tape is empty then, and there is no SHELF. */
    static void dueFault(String text, int place, int number) {
        Keys x = fresh();
        feed(x, text);
        due(x.shelf(), -1000100 - place);
        due(x.fault(), number);
        due(x.count(6), 0);
        due(x.count(1), 0);
    }

    static void dueRead(String text, int sets) {
        Keys x = fresh();
        feed(x, text);
        due(x.shelf(), sets);
        due(x.count(1), sets);
        due(x.fault(), 0);
        due(x.count(6), 0);
    }

    static String repeated(String text, int times) {
        return text.repeat(times);
    }

    static void feeding() {
        test(6, "A byte (0 to 255)", () -> {
            span(0, 255, (x, letter) -> x.feed(letter));
            Keys x = fresh();
            due(x.feed(0), 1);
            due(x.feed(255), 2);
            due(x.count(6), 2);
        });
        test(6, "THE TAPE has at most 110 bytes, that come one by one", () -> {
            Keys x = fresh();
            for (int i = 1; i <= 110; i++) {
                due(x.feed('u'), i);
            }
            due(x.feed('u'), FULL);
            due(x.count(6), 110);
            x.shelf();
            due(x.feed('u'), 1);
        });
        test(6, "BAD; FULL.", () -> {
            still(Edges::overfed, x -> x.feed(0), FULL);
            still(Edges::overfed, x -> x.feed(255), FULL);
            still(Edges::overfed, x -> x.feed(256), BAD);
            still(Edges::overfed, x -> x.feed(-1), BAD);
        });
        test(7, "THE TAPE has at most 110 bytes", () -> {
            String text = "u10;a1" + repeated(",2", 51) + "3;";
            due(text.length(), 110);
            dueRead(text, 1);
            dueFault(text.substring(0, 109) + ",", 110, 1);
            dueFault(text.substring(0, 109) + "3", 107, 1);
            dueFault(text.substring(0, 108) + "z;", 108, 1);
            dueFault(text.substring(0, 109) + "z", 109, 1);
        });
    }

    static void tokens() {
        test(7, "SIGNS , and ; nothing else", () -> {
            for (int letter = 0; letter <= 255; letter++) {
                String sign = String.valueOf((char) letter);
                boolean figure = letter >= '0' && letter <= '9';
                if (letter != ',' && letter != ';' && !figure) {
                    dueFault("u6;a3" + sign, 5, 1);
                }
                if (letter != ',' && letter != ';') {
                    dueFault("u6;a33" + sign, figure ? 4 : 6, 1);
                }
                if (!figure) {
                    dueFault("u6;a" + sign, 4, 1);
                    dueFault("u" + sign, 1, 1);
                }
                if (letter != 'u') {
                    dueFault(sign, 0, 1);
                }
            }
        });
        test(7, "letters a to z (each by itself)", () -> {
            dueFault("uu2;a0;", 1, 1);
            dueFault("u2;aa0;", 4, 1);
            dueFault("U2;a0;", 0, 1);
            dueFault("u2;A0;", 3, 1);
            dueFault("u2;`0;", 3, 1);
            dueFault("u2;{0;", 3, 1);
        });
        test(7, "NUMBERS (figures, 2 at most)", () -> {
            dueRead("u2;a3;", 1);
            dueRead("u02;a03;", 1);
            dueFault("u002;a3;", 1, 1);
            dueFault("u2;a003;", 4, 1);
            dueFault("u2;a3,000;", 6, 1);
            dueFault("u2;a/;", 4, 1);
            dueFault("u2;a:;", 4, 1);
            dueFault("u2;a3/;", 5, 1);
            dueFault("u2;a3:;", 5, 1);
        });
        test(8, "a run of three figures, at its first", () -> {
            dueFault("u100;a0;", 1, 1);
            dueFault("u7;a100;", 4, 1);
            dueFault("u7;a99,100;", 7, 1);
            dueFault("u7;a1000;", 4, 1);
            dueFault("u7;a" + repeated("0", 106), 4, 1);
            dueFault(repeated("1", 110), 0, 1);
            dueFault("u7;100;", 3, 1);
        });
    }

    static void laws() {
        test(7, "law: u BITS ; (2 to 10: TOP is 2 to the power BITS)", () -> {
            for (int bits = 0; bits <= 99; bits++) {
                if (bits < 2 || bits > 10) {
                    dueFault("u" + bits + ";a0;", 1, 2);
                    continue;
                }
                Keys x = told("u" + bits + ";a0;");
                due(x.count(2), bits);
                due(x.contains(0, (1 << bits) - 1), 0);
                due(x.contains(0, 1 << bits), BAD);
            }
            dueFault("u00;a0;", 1, 2);
            dueFault("u01;a0;", 1, 2);
            dueRead("u09;a0;", 1);
        });
        test(7, "shelf: law set { set }", () -> {
            dueFault("", 0, 1);
            dueFault("u2;", 3, 1);
            dueFault("a0;", 0, 1);
            dueFault("2;a0;", 0, 1);
            dueFault(";u2;a0;", 0, 1);
            dueFault("u2;u2;a0;", 3, 1);
            dueFault("u2;a0;u2;", 6, 1);
            dueFault("u2;;a0;", 3, 1);
            dueFault("u2,a0;", 2, 1);
            dueFault("u2a0;", 2, 1);
            dueFault("u;a0;", 1, 1);
            dueRead("u2;a0;", 1);
            dueRead("u2;a0;a0;", 2);
        });
    }

    static void setsTold() {
        test(7, "set: SORT KEY { , KEY } ;", () -> {
            dueFault("u2;a;", 4, 1);
            dueFault("u2;a,0;", 4, 1);
            dueFault("u2;a0,;", 6, 1);
            dueFault("u2;a0,,1;", 6, 1);
            dueFault("u2;a0;;", 6, 1);
            dueFault("u2;0;", 3, 1);
            dueFault("u2;,0;", 3, 1);
            dueFault("u2;a0a1;", 5, 1);
            dueRead("u2;a0,1,2,3;", 1);
        });
        test(7, "SORT: a an above one, r a round one, c a closed one, b a below one, d a deep one", () -> {
            for (char sort = 'a'; sort <= 'z'; sort++) {
                int kind = 1 + "arcbd".indexOf(sort);
                if (kind == 0) {
                    dueFault("u2;" + sort + "0;", 3, 1);
                    continue;
                }
                due(told("u2;" + sort + "0;").kind(0), kind);
            }
        });
        test(7, "SETS 0 .. 3, 4 at most", () -> {
            for (int sets = 1; sets <= 4; sets++) {
                dueRead("u2;" + repeated("a0;", sets), sets);
                Keys x = told("u2;" + repeated("b1;", sets));
                due(x.keys(sets - 1), 1);
                due(x.keys(sets), BAD);
            }
            dueFault("u2;" + repeated("a0;", 5), 15, 3);
            dueFault("u10;" + repeated("a99;", 5), 20, 3);
        });
        test(8, "3 a set more than there is room for (its letter)", () -> {
            for (char sort : "arcbd".toCharArray()) {
                dueFault("u2;a0;b0;c0;d0;" + sort, 15, 3);
                dueFault("u2;a0;b0;c0;d0;" + sort + "9", 15, 3);
            }
            dueFault("u2;a0,1;b0;c0;d0,2,3;r0;", 21, 3);
        });
    }

    static void keysTold() {
        test(7, "KEYS 0 to 99 and below TOP", () -> {
            for (int bits = 2; bits <= 10; bits++) {
                int last = Math.min((1 << bits) - 1, 99);
                Keys x = told("u" + bits + ";a0," + last + ";");
                dueKeys(x, 0, 0, last);
                int place = bits < 10 ? 4 : 5;
                dueFault("u" + bits + ";a" + (last + 1) + ";", place, last == 99 ? 1 : 2);
                dueFault("u" + bits + ";a0,0;b0," + (last + 1) + ";", place + 7, last == 99 ? 1 : 2);
                dueFault("u" + bits + ";b" + (last == 99 ? "100" : "99"), place, last == 99 ? 1 : 2);
            }
        });
        test(7, "one told twice is one", () -> {
            dueKeys(told("u6;a3,3,03,3;"), 0, 3);
            dueKeys(told("u6;a0,00,63,0,63;"), 0, 0, 63);
        });
        test(8, "2 a NUMBER that is not as told", () -> {
            dueFault("u1;a0;", 1, 2);
            dueFault("u11;a0;", 1, 2);
            dueFault("u2;a4;", 4, 2);
            dueFault("u2;a3,4;", 6, 2);
            dueFault("u6;a63,64;", 7, 2);
            dueFault("u2;a0;b3;c4;", 10, 2);
        });
    }

    static void faultOrder() {
        test(8, "FAULTS, the first TOKEN that has one (its first byte)", () -> {
            dueFault("u1;a4;z", 1, 2);
            dueFault("u2;a4; ", 4, 2);
            dueFault("u2;a4,4", 4, 2);
            dueFault("u2;a0;b0;c0;d4;r0;", 13, 2);
            dueFault("u2;e4;", 3, 1);
            dueFault("u2;a0;b0;c0;d0;r4;", 15, 3);
            dueFault("u2; a0;a100;", 3, 1);
        });
        test(8, "of one TOKEN the least", () -> {
            dueFault("99", 0, 1);
            dueFault("u2;99;", 3, 1);
            dueFault("u2;a0;99", 6, 1);
            dueFault("u2;a0;b0;c0;d0;e0;", 15, 1);
            dueFault("u2;a0;b0;c0;d0;u", 15, 1);
            dueFault("u2;a0;b0;c0;d0;9", 15, 1);
            dueFault("u2;a0;b0;c0;d0;999", 15, 1);
            dueFault("u2;a999;", 4, 1);
            dueFault("u999;", 1, 1);
        });
    }

    /** Ahead of each TOKEN of a good text each other one is put. */
    static void strays() {
        test(8, "1 it cannot stand there, or is none", () -> {
            String[] text = {"u", "6", ";", "a", "3", ",", "40", ";", "r", "7", ";"};
            String[] strays = {"u", "a", "z", "5", "99", "100", ",", ";", " ", "A"};
            String before = "";
            for (int i = 0; i < text.length; i++) {
                for (String stray : strays) {
                    boolean figure = Character.isDigit(stray.charAt(0));
                    boolean joins = figure && (Character.isDigit(text[i].charAt(0)) || isNumber(text, i - 1));
                    boolean fits = text[i].equals(stray) || text[i].equals(",") && stray.equals(";")
                        || text[i].equals(";") && stray.equals(",") && i > 2
                        || text[i].equals("r") && stray.equals("a");
                    if (!joins && !fits) {
                        dueFault(before + stray + text[i], before.length(), 1);
                    }
                }
                before += text[i];
            }
        });
    }

    static boolean isNumber(String[] text, int i) {
        return i >= 0 && Character.isDigit(text[i].charAt(0));
    }

    static void ends() {
        test(8, "the end: how many bytes there are", () -> {
            String text = "u6;a3,40;r7;";
            for (int length = 0; length < text.length(); length++) {
                if (length != 9) {
                    dueFault(text.substring(0, length), length, 1);
                }
            }
            dueRead("u6;a3,40;", 1);
            dueRead(text, 2);
            dueFault("u1", 1, 2);
            dueFault("u2", 2, 1);
            dueFault("u10", 3, 1);
            dueFault("u10;a99", 7, 1);
            dueFault("u10;a999", 5, 1);
            dueFault("u2;a0;b0;c0;d0", 14, 1);
        });
    }

    static void shelves() {
        test(7, "A SHELF that is read stands in place of the one before (none at first)", () -> {
            due(fresh().count(1), 0);
            Keys x = told("u10;a99;b98;c97;d96;");
            due(read(x, "u3;r7;"), 1);
            due(x.count(1), 1);
            due(x.count(2), 3);
            dueKeys(x, 0, 7);
            due(x.kind(0), 2);
            due(x.keys(1), BAD);
            due(x.contains(0, 7), 1);
            due(x.contains(0, 8), BAD);
        });
        test(7, "no ACT can be undone", () -> {
            Keys x = busy();
            due(x.count(5), 24);
            due(x.shelf(), 1);
            due(x.count(5), 0);
            still(() -> {
                Keys y = busy();
                y.shelf();
                return y;
            }, y -> y.undo(), STATE);
        });
        test(7, "The tape, empty then, is read", () -> {
            Keys x = told("u2;a0;");
            due(x.count(6), 0);
            due(x.shelf(), -1000100);
            due(x.fault(), 1);
            due(read(x, "u3;a0;"), 1);
            due(x.count(2), 3);
            due(read(x, "u4;a0"), -1000105);
            due(x.count(6), 0);
            due(read(x, ";"), -1000100);
            due(read(x, "u5;a0;"), 1);
        });
        test(7, "-1000100 less the place of a FAULT: all stays", () -> {
            still(Edges::untaped, x -> read(x, "u1;a0;"), -1000101);
            still(Edges::untaped, x -> read(x, "u4;a3;b9,16;"), -1000109);
            still(Edges::untaped, x -> read(x, "u4;a3;b9,10;c0,11;d0,99;"), -1000121);
        });
        test(7, "how many SETS there are", () -> {
            Keys x = busy();
            due(x.shelf(), 1);
            due(x.count(0), 5);
            due(x.restore(0), 1);
            due(x.count(1), 4);
            due(x.trace(0), 11);
        });
    }

    static void faults() {
        test(8, "The number of the latest FAULT; 0 before one.", () -> {
            Keys x = fresh();
            due(x.fault(), 0);
            due(read(x, "u2;a0;"), 1);
            due(x.fault(), 0);
            due(read(x, "u2;a0;b0;c0;d0;r0;"), -1000115);
            due(x.fault(), 3);
            due(read(x, "u2;a0;"), 1);
            due(x.fault(), 3);
            due(read(x, "u1;a0;"), -1000101);
            due(x.fault(), 2);
            due(x.shelf(), -1000100);
            due(x.fault(), 1);
        });
        test(8, "FAULTS", () -> stillBusy(x -> x.fault(), 2));
    }
}
