/** Promises 17 to 22 and 37 at their edges, a sentence of the document by itself in each test. */
public final class SeaEdgesTest {
    private static final Check CHECK = new Check();
    private static final int BAD = FormRoom.BAD, NOT = FormRoom.NOT;
    private static final int ALL = (1 << 25) - 1;

    public static void main(String[] args) {
        start();
        wide();
        noOtherSea();
        lots();
        lotsAtFirst();
        hourZero();
        fromTheFirstAgain();
        withoutBytes();
        nobodyLeaves();
        whoWouldStays();
        withAFaultItStays();
        boatRefused();
        ladderOfOneToSix();
        itemsThatAreNoCells();
        ladderOfAnyCells();
        ladderOfAnyFormat();
        inOneHour();
        inTheLastHour();
        neighbours();
        oddsByLots();
        oddsWithoutLots();
        oddsAtTheEnds();
        oddsOfStart();
        oddsRefused();
        missedAtTheEnds();
        missedWithoutLots();
        missedRefused();
        CHECK.end();
    }

    private static FormRoom from(int start, String habit) {
        FormRoom x = new FormRoom();
        x.sea(0, start);
        Check.type(x, 2, habit);
        return x;
    }

    private static void oddsDue(FormRoom x, String what, int above, int below, int... ladder) {
        Check.lay(x, 0, 1, ladder);
        int h = ladder.length;
        CHECK.parts(what, x.odds(0, h, 0), x.odds(0, h, 1), above, below);
    }

    private static void start() {
        CHECK.sentence("START (what = 0; bits, not none) .. (25 bits; all at first): what it was. BAD.");
        FormRoom x = new FormRoom();
        CHECK.due("count(4)", x.count(4), ALL);
        CHECK.due("sea(0, 0)", x.sea(0, 0), BAD);
        CHECK.due("sea(0, -1)", x.sea(0, -1), BAD);
        CHECK.due("26 bits", x.sea(0, 1 << 25), BAD);
        CHECK.due("all and one more", x.sea(0, ALL + 2), BAD);
        CHECK.due("the least int", x.sea(0, Integer.MIN_VALUE), BAD);
        CHECK.due("the first alone", x.sea(0, 1), ALL);
        CHECK.due("the last alone", x.sea(0, 1 << 24), 1);
        CHECK.due("count(4)", x.count(4), 1 << 24);
        CHECK.due("all", x.sea(0, ALL), 1 << 24);
    }

    private static void wide() {
        CHECK.sentence("WIDE (0 or 1; 0 at first)");
        FormRoom x = new FormRoom();
        CHECK.due("count(5)", x.count(5), 0);
        CHECK.due("sea(1, 0)", x.sea(1, 0), 0);
        CHECK.due("sea(1, 1)", x.sea(1, 1), 0);
        CHECK.due("count(5)", x.count(5), 1);
        CHECK.due("sea(1, 2)", x.sea(1, 2), BAD);
        CHECK.due("sea(1, -1)", x.sea(1, -1), BAD);
        CHECK.due("sea(1, 1)", x.sea(1, 1), 1);
        CHECK.due("START is as it was", x.count(4), ALL);
    }

    private static void noOtherSea() {
        CHECK.sentence("START (what = 0 ..), WIDE (1) .. BAD");
        for (int what : new int[] {-1, 2, Integer.MIN_VALUE, Integer.MAX_VALUE}) {
            CHECK.due("sea(" + what + ", 1)", new FormRoom().sea(what, 1), BAD);
        }
    }

    private static void lots() {
        CHECK.sentence("LOT of a HABIT: what it was. BAD. (0 to 9)");
        FormRoom x = new FormRoom();
        for (int habit = 0; habit < 3; habit++) {
            x.habit(habit, 4 + habit);
        }
        for (int habit = 0; habit < 3; habit++) {
            CHECK.due("10", x.habit(habit, 10), BAD);
            CHECK.due("-1", x.habit(habit, -1), BAD);
            CHECK.due("9", x.habit(habit, 9), 4 + habit);
            CHECK.due("0", x.habit(habit, 0), 9);
            CHECK.due("0 again", x.habit(habit, 0), 0);
        }
        CHECK.due("HABIT -1", x.habit(-1, 1), BAD);
        CHECK.due("HABIT 3", x.habit(3, 1), BAD);
    }

    private static void lotsAtFirst() {
        CHECK.sentence("a LOT (0 to 9; 1, 0, 0 at first)");
        FormRoom x = new FormRoom();
        CHECK.due("HABIT 0", x.habit(0, 9), 1);
        CHECK.due("HABIT 1", x.habit(1, 9), 0);
        CHECK.due("HABIT 2", x.habit(2, 9), 0);
    }

    private static void hourZero() {
        CHECK.sentence("in HOUR 0 it is where it begins");
        FormRoom x = new FormRoom();
        Check.type(x, 2, "n");
        Check.type(x, 3, "es");
        for (int cell = 0; cell < 25; cell++) {
            for (int habit = 0; habit < 3; habit++) {
                CHECK.due("boat(" + habit + ", " + cell + ", 0)", x.boat(habit, cell, 0), cell);
            }
        }
    }

    private static void fromTheFirstAgain() {
        CHECK.sentence("it does the next byte of its HABIT, from the first again behind the last");
        FormRoom x = new FormRoom();
        Check.type(x, 2, "eeeesssswwww");
        int[][] due = {{1, 1}, {4, 4}, {5, 9}, {8, 24}, {11, 21}, {12, 20}, {13, 21}, {16, 24}, {20, 24}, {24, 20},
            {25, 21}, {96, 20}, {99, 23}};
        for (int[] d : due) {
            CHECK.due("twelve bytes, HOUR " + d[0], x.boat(0, 0, d[0]), d[1]);
        }
        Check.type(x, 3, "e");
        for (int hour = 0; hour < 100; hour++) {
            CHECK.due("one byte, HOUR " + hour, x.boat(1, 10, hour), 10 + Math.min(4, hour));
        }
        Check.type(x, 4, "ew");
        for (int hour = 0; hour < 100; hour++) {
            CHECK.due("two bytes, HOUR " + hour, x.boat(2, 12, hour), 12 + hour % 2);
        }
    }

    private static void withoutBytes() {
        CHECK.sentence("(without bytes it stays)");
        FormRoom x = new FormRoom();
        Check.type(x, 3, ".");
        Check.type(x, 4, "sss");
        x.wipe(4);
        for (int habit = 0; habit < 3; habit++) {
            CHECK.due("HOUR 1", x.boat(habit, 7, 1), 7);
            CHECK.due("HOUR 99", x.boat(habit, 7, 99), 7);
        }
    }

    private static void nobodyLeaves() {
        CHECK.sentence("nobody leaves THE SEA: who would stays");
        int[][] ends = {{'n', 0, 1, 2, 3, 4}, {'s', 20, 21, 22, 23, 24}, {'w', 0, 5, 10, 15, 20},
            {'e', 4, 9, 14, 19, 24}};
        for (int[] end : ends) {
            FormRoom x = new FormRoom();
            x.type(2, end[0]);
            for (int i = 1; i < end.length; i++) {
                CHECK.due((char) end[0] + " from " + end[i], x.boat(0, end[i], 1), end[i]);
                CHECK.due((char) end[0] + " from " + end[i] + " for long", x.boat(0, end[i], 99), end[i]);
            }
            for (int cell = 0; cell < 25; cell++) {
                int row = end[0] == 'n' ? 0 : end[0] == 's' ? 4 : cell / 5;
                int column = end[0] == 'w' ? 0 : end[0] == 'e' ? 4 : cell % 5;
                CHECK.due((char) end[0] + " from " + cell + " to the end", x.boat(0, cell, 4), 5 * row + column);
            }
        }
    }

    private static void whoWouldStays() {
        CHECK.sentence("who would stays: for that HOUR alone");
        FormRoom x = new FormRoom();
        Check.type(x, 2, "nw");
        CHECK.due("n from 4", x.boat(0, 4, 1), 4);
        CHECK.due("then w", x.boat(0, 4, 2), 3);
        CHECK.due("then n", x.boat(0, 4, 3), 3);
        CHECK.due("then w", x.boat(0, 4, 4), 2);
        Check.type(x, 3, "se");
        CHECK.due("s from 20", x.boat(1, 20, 1), 20);
        CHECK.due("then e", x.boat(1, 20, 2), 21);
    }

    private static void withAFaultItStays() {
        CHECK.sentence("The FAULT of a HABIT: the first other byte; with one, it stays.");
        for (String habit : new String[] {"?", "?e", "e?", "eeeeeeeeeee?", "E"}) {
            FormRoom x = new FormRoom();
            Check.type(x, 2, habit);
            for (int hour = 0; hour < 5; hour++) {
                CHECK.due(habit + " in HOUR " + hour, x.boat(0, 10, hour), 10);
            }
            Check.type(x, 2, "e");
            CHECK.due("wiped and typed anew", x.boat(0, 10, 1), 11);
        }
        FormRoom x = new FormRoom();
        Check.type(x, 2, "e");
        Check.type(x, 3, "?");
        CHECK.due("another's FAULT", x.boat(0, 10, 1), 11);
        x.sea(0, 1 << 10);
        x.type(2, '?');
        oddsDue(x, "a LADDER finds it where it stays", 1, 1, 0, 0, 10);
    }

    private static void boatRefused() {
        CHECK.sentence("Where a boat of a HABIT that begins in a CELL is in an HOUR (0 to 99). BAD. CELLS 0 to 24, HABITS 0 to 2");
        FormRoom x = new FormRoom();
        CHECK.due("the last of all", x.boat(2, 24, 99), 24);
        CHECK.due("the first of all", x.boat(0, 0, 0), 0);
        CHECK.due("HABIT -1", x.boat(-1, 0, 0), BAD);
        CHECK.due("HABIT 3", x.boat(3, 0, 0), BAD);
        CHECK.due("CELL -1", x.boat(0, -1, 0), BAD);
        CHECK.due("CELL 25", x.boat(0, 25, 0), BAD);
        CHECK.due("HOUR -1", x.boat(0, 0, -1), BAD);
        CHECK.due("HOUR 100", x.boat(0, 0, 100), BAD);
        x.sea(0, 1);
        CHECK.due("a CELL that is not of START", x.boat(0, 24, 1), 24);
    }

    private static void ladderOfOneToSix() {
        CHECK.sentence("A LADDER is a row of 1 to 6 CELLS .. of the first h (1 to 6) items of a SHEET");
        FormRoom x = new FormRoom();
        Check.lay(x, 0, 0, 0, 1, 2, 3, 4, 9, 8);
        int[][] due = {{1, 25}, {2, 25}, {3, 25}, {4, 25}, {1, 5}, {6, 25}};
        for (int h = 1; h <= 6; h++) {
            CHECK.parts("h " + h, x.odds(0, h, 0), x.odds(0, h, 1), due[h - 1][0], due[h - 1][1]);
        }
        CHECK.due("h 7", x.odds(0, 7, 0), Check.BAD_LONG);
        CHECK.due("h 0", x.odds(0, 0, 0), Check.BAD_LONG);
        CHECK.due("missed, h 7", x.missed(0, 7, 0), BAD);
        CHECK.due("missed, h 0", x.missed(0, 0, 0), BAD);
        CHECK.due("missed, h 6", x.missed(0, 6, 0), ALL & ~0b1000011111);
        for (int n = 0; n < 6; n++) {
            x.sheet(0, 0, n);
            CHECK.due(n + " items, h " + (n + 1), x.odds(0, n + 1, 0), Check.INDEX_LONG);
            CHECK.due(n + " items, h " + (n + 1), x.missed(0, n + 1, 0), Check.INDEX);
            if (n > 0) {
                CHECK.due(n + " items, h " + n, x.odds(0, n, 0), 1);
            }
        }
    }

    private static void itemsThatAreNoCells() {
        CHECK.sentence("NOT: items that are no CELLS.");
        for (int i = 0; i < 3; i++) {
            for (int v : new int[] {-1, 25, Integer.MIN_VALUE, Integer.MAX_VALUE}) {
                FormRoom x = new FormRoom();
                Check.lay(x, 0, 2, 0, 24, 12);
                CHECK.due("0 and 24 are", x.odds(0, 3, 0), 3);
                x.lay(0, 2, i, v);
                for (int h = 1; h <= 3; h++) {
                    CHECK.due("item " + i + " of " + h + " is " + v, x.odds(0, h, 0), h > i ? Check.NOT_LONG : h);
                    CHECK.holds("item " + i + " of " + h + " is " + v, x.missed(0, h, 0) == NOT == h > i);
                }
            }
        }
    }

    private static void ladderOfAnyCells() {
        CHECK.sentence("A LADDER is a row of 1 to 6 CELLS, one for each HOUR from 0: near or far");
        FormRoom x = new FormRoom();
        oddsDue(x, "from end to end", 3, 25, 0, 24, 4);
        oddsDue(x, "staying", 1, 25, 12, 12, 12, 12, 12, 12);
    }

    private static void ladderOfAnyFormat() {
        CHECK.sentence("the LADDER of the first h items of a SHEET: of any FORMAT");
        for (int format = 0; format < 3; format++) {
            FormRoom x = new FormRoom();
            Check.lay(x, 3, format, 24, 0);
            CHECK.parts("FORMAT " + format, x.odds(3, 2, 0), x.odds(3, 2, 1), 2, 25);
            CHECK.due("FORMAT " + format, x.missed(3, 2, 2), ALL & ~(1 << 24 | 1));
        }
    }

    private static void inOneHour() {
        CHECK.sentence("it FINDS a boat, if in some HOUR both are in one CELL");
        FormRoom x = from(1, "e");
        oddsDue(x, "they pass each other", 0, 1, 1, 0);
        oddsDue(x, "in HOUR 0", 1, 1, 0, 24);
        oddsDue(x, "in HOUR 1", 1, 1, 24, 1);
        oddsDue(x, "an HOUR too soon", 0, 1, 1, 24);
        oddsDue(x, "an HOUR too late", 0, 1, 24, 24, 1);
        oddsDue(x, "in more than one HOUR", 1, 1, 0, 1, 2);
    }

    private static void inTheLastHour() {
        CHECK.sentence("one for each HOUR from 0: six HOURS, the last is HOUR 5");
        FormRoom x = from(1 << 5, "eseseseseses");
        int[] way = {5, 6, 11, 12, 17, 18};
        for (int hour = 0; hour < 6; hour++) {
            int[] ladder = {4, 4, 4, 4, 4, 4};
            ladder[hour] = way[hour];
            oddsDue(x, "in HOUR " + hour, 1, 1, ladder);
            CHECK.parts("up to HOUR " + hour, x.odds(0, hour + 1, 0), x.odds(0, hour + 1, 1), 1, 1);
            if (hour > 0) {
                CHECK.parts("ahead of HOUR " + hour, x.odds(0, hour, 0), x.odds(0, hour, 1), 0, 1);
            }
        }
    }

    private static void neighbours() {
        CHECK.sentence("or, WIDE .., in neighbouring ones (n, e, s, w).");
        FormRoom x = new FormRoom();
        for (int cell = 0; cell < 25; cell++) {
            int near = 0;
            for (int other = 0; other < 25; other++) {
                int steps = Math.abs(cell / 5 - other / 5) + Math.abs(cell % 5 - other % 5);
                near |= steps <= 1 ? 1 << other : 0;
            }
            Check.lay(x, 0, 0, cell);
            x.sea(1, 1);
            CHECK.due("WIDE in " + cell, x.missed(0, 1, 0), ALL & ~near);
            CHECK.due("WIDE in " + cell, x.odds(0, 1, 0) * 25 / x.odds(0, 1, 1), Integer.bitCount(near));
            x.sea(1, 0);
            CHECK.due("not WIDE in " + cell, x.missed(0, 1, 0), ALL & ~(1 << cell));
        }
    }

    private static void oddsByLots() {
        CHECK.sentence("ODDS: how many LOTS of all boats it FINDS, by all LOTS: FRACTION");
        FormRoom x = from(1, "");
        Check.type(x, 3, "e");
        Check.type(x, 4, "s");
        x.habit(0, 9);
        x.habit(1, 5);
        x.habit(2, 4);
        oddsDue(x, "HABIT 0 alone", 1, 2, 24, 0);
        oddsDue(x, "HABIT 1 alone", 5, 18, 24, 1);
        oddsDue(x, "HABIT 2 alone", 2, 9, 24, 5);
        oddsDue(x, "all of them", 1, 1, 0);
        oddsDue(x, "two of them", 7, 9, 24, 1, 0);
        x.habit(1, 0);
        oddsDue(x, "one without a LOT", 0, 1, 24, 1);
        oddsDue(x, "beside one without a LOT", 4, 13, 24, 5);
        x.habit(1, 9);
        x.habit(2, 9);
        x.sea(0, ALL);
        x.habit(0, 9);
        oddsDue(x, "the greatest LOTS", 1, 25, 12);
    }

    private static void oddsWithoutLots() {
        CHECK.sentence("(0 by 1 without any)");
        FormRoom x = new FormRoom();
        x.habit(0, 0);
        oddsDue(x, "no LOTS", 0, 1, 12);
        x.habit(2, 1);
        oddsDue(x, "one LOT", 1, 25, 12);
    }

    private static void oddsAtTheEnds() {
        CHECK.sentence("FRACTIONS are told in lowest terms, above and below (0 by 1): ODDS");
        FormRoom x = from(1 << 3 | 1 << 7, "");
        oddsDue(x, "none", 0, 1, 0, 24);
        oddsDue(x, "half", 1, 2, 3, 24);
        oddsDue(x, "all", 1, 1, 3, 7);
        x.habit(0, 9);
        oddsDue(x, "none", 0, 1, 0, 24);
        oddsDue(x, "half", 1, 2, 3, 24);
        oddsDue(x, "all", 1, 1, 3, 7);
    }

    private static void oddsOfStart() {
        CHECK.sentence("A boat begins in a CELL of START, each alike likely");
        for (int cell = 0; cell < 25; cell++) {
            FormRoom x = from(1 << cell, "");
            oddsDue(x, "begins in " + cell, 1, 1, cell);
            oddsDue(x, "begins elsewhere", 0, 1, (cell + 1) % 25);
            x.sea(0, ALL & ~(1 << cell));
            oddsDue(x, "begins anywhere else", 0, 1, cell);
            oddsDue(x, "one of the 24", 1, 24, (cell + 1) % 25);
        }
    }

    private static void oddsRefused() {
        CHECK.sentence("odds: BAD; NOT .. (As the least long; NULL and INDEX too, as -11, -12, ahead of NOT.)");
        FormRoom x = new FormRoom();
        CHECK.due("NULL", x.odds(0, 1, 0), Long.MIN_VALUE + 11);
        CHECK.due("BAD ahead of NULL", x.odds(0, 7, 0), Long.MIN_VALUE + 2);
        Check.lay(x, 0, 1, 25, 26);
        CHECK.due("INDEX ahead of NOT", x.odds(0, 3, 0), Long.MIN_VALUE + 12);
        CHECK.due("count(8)", x.count(8), 2);
        CHECK.due("NOT", x.odds(0, 2, 1), Long.MIN_VALUE + 3);
        CHECK.due("BAD ahead of NOT", x.odds(0, 2, 2), Long.MIN_VALUE + 2);
        CHECK.due("BAD ahead of INDEX", x.odds(0, 3, -1), Long.MIN_VALUE + 2);
        x.lose(0);
        CHECK.due("NULL of what was NOT", x.odds(0, 2, 0), Long.MIN_VALUE + 11);
        CHECK.due("SHEET 4", x.odds(4, 1, 0), Long.MIN_VALUE + 2);
        CHECK.due("SHEET -1", x.odds(-1, 1, 0), Long.MIN_VALUE + 2);
        CHECK.due("count(8)", x.count(8), 1);
    }

    private static void missedAtTheEnds() {
        CHECK.sentence("MISSED: CELLS where boats of a HABIT begin that it does not FIND, as bits.");
        FormRoom x = from(1 | 1 << 24, "");
        Check.lay(x, 0, 0, 0, 24, 12);
        CHECK.due("one", x.missed(0, 1, 0), 1 << 24);
        CHECK.due("none", x.missed(0, 2, 0), 0);
        Check.lay(x, 0, 0, 12);
        CHECK.due("all of START", x.missed(0, 1, 0), 1 | 1 << 24);
        // where they begin, not where they are
        Check.type(x, 2, "e");
        Check.lay(x, 0, 0, 12, 1);
        CHECK.due("found in 1, began in 0", x.missed(0, 2, 0), 1 << 24);
    }

    private static void missedWithoutLots() {
        CHECK.sentence("MISSED of a HABIT by that LADDER: whatever its LOT");
        FormRoom x = from(1, "");
        Check.type(x, 4, "s");
        Check.lay(x, 0, 0, 12, 5);
        x.habit(0, 0);
        CHECK.due("HABIT 0", x.missed(0, 2, 0), 1);
        CHECK.due("HABIT 1", x.missed(0, 2, 1), 1);
        CHECK.due("HABIT 2", x.missed(0, 2, 2), 0);
    }

    private static void missedRefused() {
        CHECK.sentence("missed: BAD; NULL; INDEX; NOT.");
        FormRoom x = new FormRoom();
        CHECK.due("NULL", x.missed(1, 1, 0), Check.NULL);
        CHECK.due("BAD ahead of NULL", x.missed(1, 1, 3), BAD);
        CHECK.due("BAD ahead of NULL", x.missed(1, 7, 0), BAD);
        Check.lay(x, 1, 2, 25);
        CHECK.due("INDEX ahead of NOT", x.missed(1, 2, 0), Check.INDEX);
        CHECK.due("count(8)", x.count(8), 2);
        CHECK.due("NOT", x.missed(1, 1, 0), NOT);
        CHECK.due("BAD ahead of NOT", x.missed(1, 1, -1), BAD);
        CHECK.due("BAD ahead of INDEX", x.missed(1, 2, 3), BAD);
        CHECK.due("count(8)", x.count(8), 2);
        x.lose(1);
        CHECK.due("NULL of what was NOT", x.missed(1, 1, 0), Check.NULL);
    }
}
