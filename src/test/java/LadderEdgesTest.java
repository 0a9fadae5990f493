/** Promises 22 and 37, the BEST LADDER, at their edges, a sentence of the document by itself in each test. */
public final class LadderEdgesTest {
    private static final Check CHECK = new Check();
    private static final int BAD = FormRoom.BAD;

    public static void main(String[] args) {
        hours();
        inTheBase();
        cellsOfTheRow();
        itStays();
        neighbouring();
        noWayAcrossTheEnds();
        greatestOdds();
        leastRow();
        leastRowWithoutLots();
        wide();
        written();
        asManyAsThereAreItems();
        writtenToAnyFormat();
        writeRefused();
        CHECK.end();
    }

    private static void ladderDue(FormRoom x, int base, int... due) {
        for (int i = 0; i < due.length; i++) {
            CHECK.due("ladder(" + base + ", " + due.length + ", " + i + ")", x.ladder(base, due.length, i), due[i]);
        }
    }

    private static FormRoom from(int start, String habit) {
        FormRoom x = new FormRoom();
        x.sea(0, start);
        Check.type(x, 2, habit);
        return x;
    }

    private static void hours() {
        CHECK.sentence("BEST LADDER of h HOURS (1 to 5) from a BASE");
        FormRoom x = new FormRoom();
        for (int h = 1; h <= 5; h++) {
            CHECK.due("h " + h, x.ladder(12, h, 0), 12);
        }
        CHECK.due("h 0", x.ladder(12, 0, 0), BAD);
        CHECK.due("h 6", x.ladder(12, 6, 0), BAD);
        CHECK.due("BASE 25", x.ladder(25, 1, 0), BAD);
        CHECK.due("BASE -1", x.ladder(-1, 1, 0), BAD);
    }

    private static void inTheBase() {
        CHECK.sentence("it is in the BASE in HOUR 0");
        FormRoom x = from(1 << 24, "");
        for (int base = 0; base < 25; base++) {
            ladderDue(x, base, base);
            CHECK.due("ladder(" + base + ", 5, 0)", x.ladder(base, 5, 0), base);
        }
    }

    private static void cellsOfTheRow() {
        CHECK.sentence("its i-th CELL (0 to h less 1). BAD.");
        FormRoom x = new FormRoom();
        for (int h = 1; h <= 5; h++) {
            CHECK.holds("i " + (h - 1) + " of " + h, x.ladder(12, h, h - 1) >= 0);
            CHECK.due("i " + h + " of " + h, x.ladder(12, h, h), BAD);
            CHECK.due("i -1 of " + h, x.ladder(12, h, -1), BAD);
        }
    }

    private static void itStays() {
        CHECK.sentence("goes to a neighbouring CELL or stays each HOUR");
        // the boat comes into the BASE in HOUR 1, then in HOUR 2
        ladderDue(from(1 << 11, "e"), 12, 12, 12);
        ladderDue(from(1 << 10, "e"), 12, 12, 7, 12);
        // two boats come, one behind the other
        ladderDue(from(1 << 10 | 1 << 11, "e"), 12, 12, 11);
        ladderDue(from(1 << 2 | 1 << 22, ".s.n"), 12, 12, 7, 7);
    }

    private static void neighbouring() {
        CHECK.sentence("goes to a neighbouring CELL: n, e, s, w alone");
        for (int to = 0; to < 25; to++) {
            FormRoom x = from(1 << to, "");
            int steps = Math.abs(to / 5 - 2) + Math.abs(to % 5 - 2);
            for (int h = 1; h <= 5; h++) {
                boolean found = false;
                for (int i = 0; i < h; i++) {
                    found |= x.ladder(12, h, i) == to;
                }
                CHECK.holds("to " + to + " in " + h + " HOURS", found == steps < h);
            }
        }
    }

    private static void noWayAcrossTheEnds() {
        CHECK.sentence("nobody leaves THE SEA: no LADDER goes from one end of a row to the next row");
        ladderDue(from(1 << 5, ""), 4, 4, 3);
        ladderDue(from(1 << 4, ""), 5, 5, 0);
        ladderDue(from(1 << 20, ""), 19, 19, 14);
        ladderDue(from(1 << 19, ""), 20, 20, 15);
        ladderDue(from(1 << 22, ""), 2, 2, 1, 0);
        ladderDue(from(1 << 2, ""), 22, 22, 17, 12, 7, 2);
    }

    private static void greatestOdds() {
        CHECK.sentence("the greatest ODDS");
        ladderDue(from(1 << 12 | 1 << 13 | 1 << 14 | 1 << 7, ""), 12, 12, 13, 14);
        // two of the three to the south, one to the north
        ladderDue(from(1 << 7 | 1 << 17 | 1 << 22, ""), 12, 12, 17, 22);
        // HABIT 0's boat is in 11 from HOUR 1 on, HABIT 1's in 13, and only one of them is in reach: the LOTS tell
        FormRoom x = from(1 << 12, "w...");
        Check.type(x, 3, "e...");
        x.habit(0, 5);
        x.habit(1, 4);
        ladderDue(x, 7, 7, 6, 11);
        x.habit(1, 5);
        ladderDue(x, 7, 7, 6, 11);
        x.habit(1, 6);
        ladderDue(x, 7, 7, 8, 13);
        // with two HOURS more both can be found
        ladderDue(x, 7, 7, 6, 11, 12, 13);
    }

    private static void leastRow() {
        CHECK.sentence("of like ones the least row.");
        FormRoom x = from(1 << 7 | 1 << 11 | 1 << 13 | 1 << 17, "");
        ladderDue(x, 12, 12, 7);
        x.sea(0, 1 << 11 | 1 << 13 | 1 << 17);
        ladderDue(x, 12, 12, 11);
        x.sea(0, 1 << 13 | 1 << 17);
        ladderDue(x, 12, 12, 13);
        x.sea(0, 1 << 17);
        ladderDue(x, 12, 12, 17);
        // found in HOUR 1 or, behind a lesser CELL, in HOUR 3
        ladderDue(x, 12, 12, 7, 12, 17);
        x.sea(0, 1 << 12);
        ladderDue(x, 12, 12, 7, 2, 1, 0);
    }

    private static void leastRowWithoutLots() {
        CHECK.sentence("of like ones the least row: without LOTS all are alike");
        FormRoom x = new FormRoom();
        x.habit(0, 0);
        ladderDue(x, 0, 0, 0, 0, 0, 0);
        ladderDue(x, 4, 4, 3, 2, 1, 0);
        ladderDue(x, 20, 20, 15, 10, 5, 0);
        ladderDue(x, 24, 24, 19, 14, 9, 4);
        ladderDue(x, 9, 9, 4, 3, 2, 1);
        ladderDue(x, 5, 5, 0, 0, 0, 0);
        ladderDue(x, 2, 2, 1, 0, 0, 0);
    }

    private static void wide() {
        CHECK.sentence("or, WIDE, in neighbouring ones: the BEST LADDER too");
        FormRoom x = from(1 << 14 | 1 << 10, "");
        ladderDue(x, 12, 12, 11, 10);
        ladderDue(x, 12, 12, 7);
        x.sea(1, 1);
        ladderDue(x, 12, 12, 11);
        x.sea(0, 1 << 14);
        ladderDue(x, 12, 12, 13);
        ladderDue(x, 13, 13, 8);
    }

    private static void written() {
        CHECK.sentence("BEST LADDER comes to a SHEET from item 0 on, as many as there are items: how many.");
        for (int h = 1; h <= 5; h++) {
            FormRoom x = new FormRoom();
            Check.lay(x, 0, 0, 77, 77, 77, 77, 77, 77, 77);
            CHECK.due("write(24, " + h + ", 0)", x.write(24, h, 0), h);
            for (int i = 0; i < 7; i++) {
                CHECK.due("item " + i, x.get(0, 0, i), i < h ? x.ladder(24, h, i) : 77);
            }
            CHECK.due("lose(0)", x.lose(0), 7);
        }
    }

    private static void asManyAsThereAreItems() {
        CHECK.sentence("as many as there are items");
        int[] row = {24, 19, 14, 9, 4};
        for (int n = 0; n <= 60; n = n < 7 ? n + 1 : n + 53) {
            FormRoom x = new FormRoom();
            x.sheet(2, 2, n);
            CHECK.due(n + " items", x.write(24, 5, 2), Math.min(n, 5));
            for (int i = 0; i < Math.min(n, 5); i++) {
                CHECK.due("item " + i, x.get(2, 2, i), row[i]);
            }
            CHECK.due("lose(2)", x.lose(2), n);
        }
    }

    private static void writtenToAnyFormat() {
        CHECK.sentence("BEST LADDER comes to a SHEET: of any FORMAT");
        for (int format = 0; format < 3; format++) {
            FormRoom x = new FormRoom();
            x.sheet(3, format, 2);
            CHECK.due("write(24, 2, 3)", x.write(24, 2, 3), 2);
            CHECK.due("item 0", x.get(3, format, 0), 24);
            CHECK.due("item 1", x.get(3, format, 1), 19);
        }
    }

    private static void writeRefused() {
        CHECK.sentence("write: BAD; NULL.");
        FormRoom x = new FormRoom();
        CHECK.due("NULL", x.write(0, 1, 3), Check.NULL);
        CHECK.due("count(8)", x.count(8), 1);
        CHECK.due("BAD ahead of NULL", x.write(25, 1, 3), BAD);
        CHECK.due("BAD ahead of NULL", x.write(-1, 1, 3), BAD);
        CHECK.due("BAD ahead of NULL", x.write(0, 6, 3), BAD);
        CHECK.due("BAD ahead of NULL", x.write(0, 0, 3), BAD);
        CHECK.due("SHEET 4", x.write(0, 1, 4), BAD);
        CHECK.due("SHEET -1", x.write(0, 1, -1), BAD);
    }
}
