/** Promises 32 to 36 at their edges, a sentence of the document by itself in each test. */
public final class SheetsEdgesTest {
    private static final Check CHECK = new Check();
    private static final int BAD = FormRoom.BAD;
    private static final int NULL = Check.NULL, INDEX = Check.INDEX, CAST = Check.CAST, STORE = Check.STORE;
    private static final int MIN = Integer.MIN_VALUE, MAX = Integer.MAX_VALUE;

    public static void main(String[] args) {
        lostAtFirst();
        zeroToSixtyItems();
        zeroAtFirst();
        newRow();
        formats();
        sizeBelowZero();
        lose();
        loseOneOfFour();
        lowestBits();
        itemsAtTheEnds();
        noItems();
        treatedAsOfAFormat();
        layRefused();
        getRefused();
        itemsThatLookRefused();
        copied();
        copiedAsTheyWere();
        copiedAtTheEnds();
        copiedNone();
        copiedApart();
        copyNull();
        copyStore();
        copyIndex();
        copyRefused();
        CHECK.end();
    }

    private static void itemsDue(FormRoom x, int s, int format, int... due) {
        for (int i = 0; i < due.length; i++) {
            CHECK.due("item " + i + " of SHEET " + s, x.get(s, format, i), due[i]);
        }
    }

    private static void lostAtFirst() {
        CHECK.sentence("SHEETS 0 .. 3 are LOST (at first)");
        for (int s = 0; s < 4; s++) {
            FormRoom x = new FormRoom();
            CHECK.due("read", x.read(s), NULL);
            CHECK.due("odds", x.odds(s, 1, 0), Check.NULL_LONG);
            CHECK.due("missed", x.missed(s, 1, 0), NULL);
            CHECK.due("waits", x.waits(s, 0), NULL);
            CHECK.due("order", x.order(s, 1, 0), NULL);
            CHECK.due("lose", x.lose(s), NULL);
            CHECK.due("lay", x.lay(s, 0, 0, 0), NULL);
            CHECK.due("get", x.get(s, 0, 0), MIN);
            CHECK.due("copy", x.copy(s, 0, s, 0, 0), NULL);
            CHECK.due("write", x.write(0, 1, s), NULL);
            CHECK.due("count(8)", x.count(8), 1);
        }
    }

    private static void zeroToSixtyItems() {
        CHECK.sentence("of 0 to 60 items .. A SHEET is a new row of a FORMAT with n items: n. BAD: .. above 60");
        for (int s = 0; s < 4; s++) {
            FormRoom x = new FormRoom();
            for (int n = 0; n <= 60; n++) {
                CHECK.due("sheet(" + s + ", 1, " + n + ")", x.sheet(s, 1, n), n);
                CHECK.due("the last of " + n, x.lay(s, 1, n - 1, 5), n == 0 ? INDEX : 1);
                CHECK.due("behind the last of " + n, x.lay(s, 1, n, 5), INDEX);
            }
            CHECK.due("61", x.sheet(s, 1, 61), BAD);
            CHECK.due("the greatest int", x.sheet(s, 1, MAX), BAD);
            CHECK.due("sixty are left", x.lose(s), 60);
        }
    }

    private static void zeroAtFirst() {
        CHECK.sentence("items (0 at first)");
        for (int format = 0; format < 3; format++) {
            FormRoom x = new FormRoom();
            x.sheet(3, format, 60);
            for (int i = 0; i < 60; i++) {
                CHECK.due("item " + i, x.get(3, format, i), 0);
            }
        }
    }

    private static void newRow() {
        CHECK.sentence("A SHEET is a new row: nothing is left of the one that it was");
        FormRoom x = new FormRoom();
        Check.lay(x, 1, 2, 9, 8, 7, 6, 5, 4, 3, 2, 1);
        x.sheet(1, 2, 9);
        itemsDue(x, 1, 2, 0, 0, 0, 0, 0, 0, 0, 0, 0);
        Check.lay(x, 1, 2, 9, 8, 7);
        x.sheet(1, 2, 1);
        x.sheet(1, 2, 3);
        itemsDue(x, 1, 2, 0, 0, 0);
        Check.lay(x, 1, 2, 9, 8, 7);
        x.lose(1);
        x.sheet(1, 0, 3);
        itemsDue(x, 1, 0, 0, 0, 0);
        CHECK.due("its FORMAT is new too", x.lay(1, 2, 0, 1), CAST);
    }

    private static void formats() {
        CHECK.sentence("a FORMAT: 0 bytes, 1 shorts, 2 ints .. BAD: SHEET, FORMAT");
        FormRoom x = new FormRoom();
        for (int format = 0; format < 3; format++) {
            CHECK.due("FORMAT " + format, x.sheet(format, format, 1), 1);
        }
        for (int format : new int[] {-1, 3, MIN, MAX}) {
            CHECK.due("sheet, FORMAT " + format, x.sheet(0, format, 1), BAD);
            CHECK.due("lay, FORMAT " + format, x.lay(0, format, 0, 1), BAD);
            CHECK.due("get, FORMAT " + format, x.get(0, format, 0), MIN);
        }
        for (int s : new int[] {-1, 4, MIN, MAX}) {
            CHECK.due("sheet, SHEET " + s, x.sheet(s, 0, 1), BAD);
        }
        CHECK.due("count(8)", x.count(8), 0);
        CHECK.due("SHEET 3 is LOST still", x.lose(3), NULL);
    }

    private static void sizeBelowZero() {
        CHECK.sentence("5 SIZE: below 0. .. BAD: SHEET, FORMAT, above 60; SIZE.");
        FormRoom x = new FormRoom();
        Check.lay(x, 0, 0, 1, 2, 3);
        CHECK.due("-1", x.sheet(0, 1, -1), Check.SIZE);
        CHECK.due("the least int", x.sheet(0, 1, MIN), Check.SIZE);
        CHECK.due("of one that is LOST", x.sheet(2, 1, -1), Check.SIZE);
        CHECK.due("count(8)", x.count(8), 5);
        itemsDue(x, 0, 0, 1, 2, 3);
        CHECK.due("BAD ahead of SIZE", x.sheet(4, 1, -1), BAD);
        CHECK.due("BAD ahead of SIZE", x.sheet(0, 3, -1), BAD);
        CHECK.due("it is LOST still", x.lose(2), NULL);
        CHECK.due("as many as it had", x.lose(0), 3);
    }

    private static void lose() {
        CHECK.sentence("It is LOST: how many items it had. BAD; NULL.");
        FormRoom x = new FormRoom();
        for (int n : new int[] {0, 1, 59, 60}) {
            x.sheet(2, 1, n);
            CHECK.due("lose of " + n, x.lose(2), n);
            CHECK.due("lose again", x.lose(2), NULL);
            CHECK.due("its items", x.lay(2, 1, 0, 1), NULL);
        }
        CHECK.due("lose(-1)", x.lose(-1), BAD);
        CHECK.due("lose(4)", x.lose(4), BAD);
    }

    private static void loseOneOfFour() {
        CHECK.sentence("SHEETS 0 .. 3: each for itself");
        FormRoom x = new FormRoom();
        for (int s = 0; s < 4; s++) {
            Check.lay(x, s, 2, 10 * s, 10 * s + 1);
        }
        CHECK.due("lose(1)", x.lose(1), 2);
        itemsDue(x, 0, 2, 0, 1);
        itemsDue(x, 2, 2, 20, 21);
        itemsDue(x, 3, 2, 30, 31);
        x.sheet(1, 2, 2);
        itemsDue(x, 1, 2, 0, 0);
        itemsDue(x, 2, 2, 20, 21);
    }

    private static void lowestBits() {
        CHECK.sentence("Item i, treated as of a FORMAT, becomes v (the lowest bits that it has): 1.");
        int[][] due = {
            {0, 0, 0}, {127, 127, 127}, {128, -128, 128}, {255, -1, 255}, {256, 0, 256}, {-128, -128, -128},
            {-129, 127, -129}, {-1, -1, -1}, {32767, -1, 32767}, {32768, 0, -32768}, {65535, -1, -1}, {65536, 0, 0},
            {-32768, 0, -32768}, {-32769, -1, 32767}, {MAX, -1, -1}, {MIN, 0, 0}, {0x12348765, 0x65, 0x8765 - 65536}};
        for (int[] d : due) {
            FormRoom x = new FormRoom();
            for (int format = 0; format < 3; format++) {
                x.sheet(format, format, 1);
                CHECK.due("lay", x.lay(format, format, 0, d[0]), 1);
                CHECK.due(d[0] + " of FORMAT " + format, x.get(format, format, 0), format == 2 ? d[0] : d[format + 1]);
            }
        }
    }

    private static void itemsAtTheEnds() {
        CHECK.sentence("2 INDEX: there is no such item");
        for (int n : new int[] {1, 2, 59, 60}) {
            FormRoom x = new FormRoom();
            x.sheet(0, 0, n);
            CHECK.due("the first of " + n, x.lay(0, 0, 0, 3), 1);
            CHECK.due("the last of " + n, x.lay(0, 0, n - 1, 4), 1);
            CHECK.due("get the first", x.get(0, 0, 0), n == 1 ? 4 : 3);
            CHECK.due("get the last", x.get(0, 0, n - 1), 4);
            CHECK.due("no FINDING", x.count(8), 0);
            for (int i : new int[] {-1, n, 60, 61, MIN, MAX}) {
                CHECK.due("lay at " + i + " of " + n, x.lay(0, 0, i, 5), INDEX);
                CHECK.due("get at " + i + " of " + n, x.get(0, 0, i), MIN);
                CHECK.due("count(8)", x.count(8), 2);
            }
            CHECK.due("the last is as it was", x.get(0, 0, n - 1), 4);
        }
    }

    private static void noItems() {
        CHECK.sentence("a row .. of 0 .. items");
        FormRoom x = new FormRoom();
        x.sheet(0, 0, 0);
        CHECK.due("lay", x.lay(0, 0, 0, 1), INDEX);
        CHECK.due("lay below", x.lay(0, 0, -1, 1), INDEX);
        CHECK.due("get", x.get(0, 0, 0), MIN);
        CHECK.due("count(8)", x.count(8), 2);
        CHECK.due("CAST ahead of INDEX", x.lay(0, 1, 0, 1), CAST);
        CHECK.due("read", x.read(0), 0);
        CHECK.due("write", x.write(0, 5, 0), 0);
        CHECK.due("copy", x.copy(0, 0, 0, 0, 0), 1);
        CHECK.due("copy of one", x.copy(0, 0, 0, 0, 1), INDEX);
        CHECK.due("odds", x.odds(0, 1, 0), Check.INDEX_LONG);
        CHECK.due("waits", x.waits(0, 0), 0);
        CHECK.due("order", x.order(0, 1, 0), 0);
        CHECK.due("lose", x.lose(0), 0);
    }

    private static void treatedAsOfAFormat() {
        CHECK.sentence("3 CAST: it has another FORMAT");
        FormRoom x = new FormRoom();
        for (int format = 0; format < 3; format++) {
            x.sheet(format, format, 2);
            x.lay(format, format, 0, 7);
            for (int other = 0; other < 3; other++) {
                CHECK.due("lay of " + format + " as " + other, x.lay(format, other, 1, 9), other == format ? 1 : CAST);
                x.sheet(3, 0, -1);
                CHECK.due("get of " + format + " as " + other, x.get(format, other, 0), other == format ? 7 : MIN);
                CHECK.due("count(8)", x.count(8), other == format ? 5 : 3);
            }
        }
    }

    private static void layRefused() {
        CHECK.sentence("lay: BAD; NULL; CAST; INDEX.");
        FormRoom x = new FormRoom();
        x.sheet(0, 0, 1);
        CHECK.due("INDEX", x.lay(0, 0, 1, 5), INDEX);
        CHECK.due("CAST ahead of INDEX", x.lay(0, 1, 1, 5), CAST);
        CHECK.due("BAD ahead of INDEX", x.lay(0, 3, 1, 5), BAD);
        CHECK.due("BAD ahead of INDEX", x.lay(-1, 0, 1, 5), BAD);
        CHECK.due("count(8)", x.count(8), 3);
        x.lose(0);
        CHECK.due("NULL ahead of CAST", x.lay(0, 1, 0, 5), NULL);
        CHECK.due("NULL ahead of INDEX", x.lay(0, 0, 1, 5), NULL);
        CHECK.due("BAD ahead of NULL", x.lay(0, -1, 0, 5), BAD);
        CHECK.due("BAD ahead of NULL", x.lay(4, 0, 0, 5), BAD);
        CHECK.due("count(8)", x.count(8), 1);
    }

    private static void getDue(FormRoom x, String what, int finding, int s, int format, int i) {
        CHECK.due(what, x.get(s, format, i), MIN);
        CHECK.due(what + ", count(8)", x.count(8), finding);
    }

    private static void getRefused() {
        CHECK.sentence("Item i of it. BAD: the least int; so are NULL, CAST, INDEX (count() 8 tells).");
        FormRoom x = new FormRoom();
        x.sheet(0, 0, 1);
        getDue(x, "BAD", 0, 0, 3, 0);
        getDue(x, "INDEX", 2, 0, 0, 1);
        getDue(x, "CAST ahead of INDEX", 3, 0, 1, 1);
        getDue(x, "BAD ahead of INDEX", 3, 0, -1, 1);
        getDue(x, "BAD ahead of INDEX", 3, 4, 0, 1);
        x.lose(0);
        getDue(x, "BAD ahead of NULL", 3, 0, 3, 0);
        getDue(x, "NULL ahead of CAST", 1, 0, 1, 0);
        x.sheet(1, 1, 0);
        getDue(x, "INDEX", 2, 1, 1, 0);
        getDue(x, "NULL ahead of INDEX", 1, 0, 0, 1);
        getDue(x, "BAD", 1, -1, 0, 0);
    }

    private static void itemsThatLookRefused() {
        CHECK.sentence("Item i of it: whatever it is");
        FormRoom x = new FormRoom();
        Check.lay(x, 2, 2, -2, -3, -4, -11, -12, -13, -14, -15, MIN, MAX);
        itemsDue(x, 2, 2, -2, -3, -4, -11, -12, -13, -14, -15, MIN, MAX);
        CHECK.due("count(8)", x.count(8), 0);
    }

    private static void copied() {
        CHECK.sentence("n items of SHEET s, from i on, come to SHEET t, from j on: 1.");
        FormRoom x = new FormRoom();
        Check.lay(x, 0, 0, 1, 2, 3, 4, 5);
        Check.lay(x, 1, 0, 11, 12, 13, 14, 15, 16);
        CHECK.due("copy(0, 1, 1, 2, 3)", x.copy(0, 1, 1, 2, 3), 1);
        itemsDue(x, 1, 0, 11, 12, 2, 3, 4, 16);
        itemsDue(x, 0, 0, 1, 2, 3, 4, 5);
        CHECK.due("copy(1, 5, 0, 0, 1)", x.copy(1, 5, 0, 0, 1), 1);
        itemsDue(x, 0, 0, 16, 2, 3, 4, 5);
    }

    private static void copiedAsTheyWere() {
        CHECK.sentence("to SHEET t (perhaps s, as they were)");
        for (int i = 0; i <= 6; i++) {
            for (int j = 0; j <= 6; j++) {
                int n = 6 - Math.max(i, j);
                FormRoom x = new FormRoom();
                Check.lay(x, 0, 1, 0, 1, 2, 3, 4, 5);
                CHECK.due("copy(0, " + i + ", 0, " + j + ", " + n + ")", x.copy(0, i, 0, j, n), 1);
                for (int k = 0; k < 6; k++) {
                    boolean came = k >= j && k < j + n;
                    CHECK.due("item " + k, x.get(0, 1, k), came ? i + k - j : k);
                }
            }
        }
    }

    private static void copiedAtTheEnds() {
        CHECK.sentence("n items of SHEET s: all sixty");
        for (int format = 0; format < 3; format++) {
            FormRoom x = new FormRoom();
            x.sheet(0, format, 60);
            x.sheet(3, format, 60);
            for (int i = 0; i < 60; i++) {
                x.lay(0, format, i, i - 30);
            }
            CHECK.due("copy(0, 0, 3, 0, 60)", x.copy(0, 0, 3, 0, 60), 1);
            for (int i = 0; i < 60; i++) {
                CHECK.due("item " + i, x.get(3, format, i), i - 30);
            }
            CHECK.due("copy(0, 0, 3, 0, 61)", x.copy(0, 0, 3, 0, 61), INDEX);
            CHECK.due("copy(0, 59, 3, 0, 1)", x.copy(0, 59, 3, 0, 1), 1);
            CHECK.due("the last", x.get(3, format, 0), 29);
            CHECK.due("copy(0, 0, 3, 59, 1)", x.copy(0, 0, 3, 59, 1), 1);
            CHECK.due("to the last", x.get(3, format, 59), -30);
        }
    }

    private static void copiedNone() {
        CHECK.sentence("n items: none");
        FormRoom x = new FormRoom();
        Check.lay(x, 0, 0, 1, 2);
        Check.lay(x, 1, 0, 3);
        x.sheet(2, 0, 0);
        CHECK.due("from the first", x.copy(0, 0, 1, 0, 0), 1);
        CHECK.due("from behind the last", x.copy(0, 2, 1, 1, 0), 1);
        CHECK.due("from further on", x.copy(0, 3, 1, 1, 0), INDEX);
        CHECK.due("to further on", x.copy(0, 2, 1, 2, 0), INDEX);
        CHECK.due("to a SHEET without items", x.copy(0, 2, 2, 0, 0), 1);
        CHECK.due("from a SHEET without items", x.copy(2, 0, 0, 2, 0), 1);
        itemsDue(x, 0, 0, 1, 2);
        itemsDue(x, 1, 0, 3);
    }

    private static void copiedApart() {
        CHECK.sentence("come to SHEET t: the rows stay apart");
        FormRoom x = new FormRoom();
        Check.lay(x, 0, 2, 1, 2);
        x.sheet(1, 2, 2);
        x.copy(0, 0, 1, 0, 2);
        x.lay(0, 2, 0, 9);
        itemsDue(x, 1, 2, 1, 2);
        x.lay(1, 2, 1, 8);
        itemsDue(x, 0, 2, 9, 2);
        x.lose(0);
        itemsDue(x, 1, 2, 1, 8);
    }

    private static void copyNull() {
        CHECK.sentence("copy: NULL: s, t");
        FormRoom x = new FormRoom();
        x.sheet(0, 1, 3);
        CHECK.due("s", x.copy(1, 0, 0, 0, 1), NULL);
        CHECK.due("t", x.copy(0, 0, 1, 0, 1), NULL);
        CHECK.due("both", x.copy(1, 0, 2, 0, 1), NULL);
        CHECK.due("s and t one SHEET", x.copy(1, 0, 1, 0, 0), NULL);
        CHECK.due("count(8)", x.count(8), 1);
        x.sheet(1, 2, 3);
        x.lose(1);
        CHECK.due("NULL ahead of STORE", x.copy(0, 0, 1, 0, 1), NULL);
        CHECK.due("NULL ahead of STORE", x.copy(1, 0, 0, 0, 1), NULL);
        CHECK.due("NULL ahead of INDEX", x.copy(1, -1, 0, 0, -1), NULL);
        CHECK.due("NULL ahead of INDEX", x.copy(0, 4, 1, -1, 1), NULL);
    }

    private static void copyStore() {
        CHECK.sentence("4 STORE: unlike FORMATS");
        FormRoom x = new FormRoom();
        for (int format = 0; format < 3; format++) {
            Check.lay(x, format, format, 1 + format, 1 + format);
        }
        for (int s = 0; s < 3; s++) {
            for (int t = 0; t < 3; t++) {
                CHECK.due("copy from " + s + " to " + t, x.copy(s, 0, t, 1, 1), s == t ? 1 : STORE);
                CHECK.due("none from " + s + " to " + t, x.copy(s, 0, t, 0, 0), s == t ? 1 : STORE);
                CHECK.due("STORE ahead of INDEX", x.copy(s, -1, t, 0, 1), s == t ? INDEX : STORE);
                CHECK.due("STORE ahead of INDEX", x.copy(s, 0, t, 9, 1), s == t ? INDEX : STORE);
                CHECK.due("STORE ahead of INDEX", x.copy(s, 0, t, 0, -1), s == t ? INDEX : STORE);
            }
        }
        for (int format = 0; format < 3; format++) {
            itemsDue(x, format, format, 1 + format, 1 + format);
        }
    }

    private static void copyIndex() {
        CHECK.sentence("INDEX: below 0, not so many.");
        int[][] wrong = {{-1, 0, 1}, {0, -1, 1}, {0, 0, -1}, {-1, -1, -1}, {-1, 0, 0}, {0, -1, 0}, {0, 0, 4}, {1, 0, 3},
            {3, 0, 1}, {4, 0, 0}, {0, 1, 2}, {0, 2, 1}, {0, 3, 0}, {0, 0, 3}, {MIN, 0, 1}, {0, MIN, 1}, {0, 0, MIN},
            {MAX, 0, 1}, {0, MAX, 1}, {0, 0, MAX}, {1, 1, MAX}, {MAX, MAX, MAX}, {MAX, 0, MIN}, {2, 0, MAX}};
        FormRoom x = new FormRoom();
        Check.lay(x, 0, 2, 1, 2, 3);
        Check.lay(x, 1, 2, 4, 5);
        for (int[] w : wrong) {
            x.sheet(2, 0, -1);
            CHECK.due("copy(0, " + w[0] + ", 1, " + w[1] + ", " + w[2] + ")", x.copy(0, w[0], 1, w[1], w[2]), INDEX);
            CHECK.due("count(8)", x.count(8), 2);
        }
        itemsDue(x, 0, 2, 1, 2, 3);
        itemsDue(x, 1, 2, 4, 5);
        CHECK.due("just so many", x.copy(0, 1, 1, 0, 2), 1);
        itemsDue(x, 1, 2, 2, 3);
    }

    private static void copyRefused() {
        CHECK.sentence("copy: BAD: the SHEETS");
        FormRoom x = new FormRoom();
        x.sheet(0, 0, 2);
        for (int s : new int[] {-1, 4, MIN, MAX}) {
            CHECK.due("s is " + s, x.copy(s, 0, 0, 0, 1), BAD);
            CHECK.due("t is " + s, x.copy(0, 0, s, 0, 1), BAD);
            CHECK.due("BAD ahead of NULL", x.copy(s, 0, 1, 0, 1), BAD);
            CHECK.due("BAD ahead of NULL", x.copy(1, 0, s, 0, 1), BAD);
            CHECK.due("BAD ahead of INDEX", x.copy(s, -1, 0, 0, 1), BAD);
            CHECK.due("BAD ahead of INDEX", x.copy(0, 0, s, 0, -1), BAD);
        }
        CHECK.due("no FINDING", x.count(8), 0);
    }
}
