/** Promises 17 to 22 and 37: sea, habit, boat, odds, missed, ladder, write. */
public final class SeaTest {
    private static final Check CHECK = new Check();
    private static final int ALL = (1 << 25) - 1;

    public static void main(String[] args) {
        sea();
        habit();
        boat();
        edges();
        odds();
        oddsRefused();
        missed();
        wide();
        ladder();
        ladderAtEdges();
        write();
        CHECK.end();
    }

    private static void sea() {
        FormRoom x = new FormRoom();
        CHECK.due("start", x.sea(0, 1), ALL);
        CHECK.due("start", x.sea(0, ALL), 1);
        CHECK.due("too many bits", x.sea(0, ALL + 1), -2);
        CHECK.due("none", x.sea(0, 0), -2);
        CHECK.due("below", x.sea(0, -1), -2);
        CHECK.due("wide", x.sea(1, 1), 0);
        CHECK.due("wide", x.sea(1, 0), 1);
        CHECK.due("wide 2", x.sea(1, 2), -2);
        CHECK.due("wide -1", x.sea(1, -1), -2);
        CHECK.due("what 2", x.sea(2, 1), -2);
        CHECK.due("what -1", x.sea(-1, 1), -2);
        CHECK.due("unchanged", x.count(4), ALL);
        CHECK.due("unchanged", x.count(5), 0);
    }

    private static void habit() {
        FormRoom x = new FormRoom();
        CHECK.due("first", x.habit(0, 9), 1);
        CHECK.due("first again", x.habit(0, 0), 9);
        CHECK.due("last", x.habit(2, 3), 0);
        CHECK.due("10", x.habit(0, 10), -2);
        CHECK.due("-1", x.habit(0, -1), -2);
        CHECK.due("habit 3", x.habit(3, 1), -2);
        CHECK.due("habit -1", x.habit(-1, 1), -2);
        CHECK.due("unchanged", x.habit(0, 1), 0);
    }

    private static void boat() {
        FormRoom x = new FormRoom();
        Check.type(x, 3, "nes.w");
        int[] due = {12, 7, 8, 13, 13, 12, 7};
        for (int hour = 0; hour < due.length; hour++) {
            CHECK.due("hour " + hour, x.boat(1, 12, hour), due[hour]);
        }
        CHECK.due("hour 99", x.boat(1, 12, 99), 13);
        CHECK.due("no bytes", x.boat(2, 12, 99), 12);
        CHECK.due("hour 100", x.boat(1, 12, 100), -2);
        CHECK.due("hour -1", x.boat(1, 12, -1), -2);
        CHECK.due("cell 25", x.boat(1, 25, 0), -2);
        CHECK.due("cell -1", x.boat(1, -1, 0), -2);
        CHECK.due("habit 3", x.boat(3, 0, 0), -2);
        CHECK.due("habit -1", x.boat(-1, 0, 0), -2);
        Check.type(x, 4, "eeeesssswwww");
        CHECK.due("twelve bytes", x.boat(2, 0, 12), 20);
        CHECK.due("from the first again", x.boat(2, 0, 14), 22);
        x.wipe(4);
        x.type(3, 'x');
        CHECK.due("with a fault it stays", x.boat(1, 12, 1), 12);
        x.sea(0, 1);
        CHECK.due("another start", x.boat(2, 12, 1), 12);
    }

    private static void edges() {
        FormRoom x = new FormRoom();
        String moves = "nesw";
        int[] by = {-5, 1, 5, -1};
        for (int m = 0; m < 4; m++) {
            Check.type(x, 2, moves.substring(m, m + 1));
            for (int cell = 0; cell < 25; cell++) {
                boolean leaves = m == 0 && cell < 5 || m == 1 && cell % 5 == 4
                        || m == 2 && cell > 19 || m == 3 && cell % 5 == 0;
                CHECK.due(moves.charAt(m) + " from " + cell, x.boat(0, cell, 1), leaves ? cell : cell + by[m]);
            }
        }
    }

    private static void odds() {
        FormRoom x = new FormRoom();
        Check.lay(x, 0, 0, 0, 1, 2, 3, 4, 9);
        CHECK.parts("six of 25", x.odds(0, 6, 0), x.odds(0, 6, 1), 6, 25);
        CHECK.parts("five of 25", x.odds(0, 5, 0), x.odds(0, 5, 1), 1, 5);
        x.habit(1, 3);
        Check.type(x, 3, "e");
        // the ladder goes with the boat of HABIT 1 that begins in 0, and meets no other of that HABIT
        CHECK.parts("two habits", x.odds(0, 1, 0), x.odds(0, 1, 1), 1, 25);
        CHECK.parts("two habits, two hours", x.odds(0, 2, 0), x.odds(0, 2, 1), 1, 20);
        x.sea(0, 1 << 4);
        CHECK.parts("begins in 4", x.odds(0, 5, 0), x.odds(0, 5, 1), 1, 1);
        x.sea(0, 1 << 24);
        CHECK.parts("none found", x.odds(0, 5, 0), x.odds(0, 5, 1), 0, 1);
        x.habit(0, 0);
        x.habit(1, 0);
        CHECK.parts("without lots", x.odds(0, 5, 0), x.odds(0, 5, 1), 0, 1);
    }

    private static void oddsRefused() {
        FormRoom x = new FormRoom();
        CHECK.due("NULL", x.odds(0, 1, 0), Check.NULL_LONG);
        CHECK.due("finding", x.count(8), 1);
        Check.lay(x, 0, 2, 24, 25, -1);
        CHECK.due("INDEX", x.odds(0, 4, 0), Check.INDEX_LONG);
        CHECK.due("finding", x.count(8), 2);
        CHECK.due("NOT", x.odds(0, 2, 0), Check.NOT_LONG);
        CHECK.due("above", x.odds(0, 1, 0), 1);
        x.lay(0, 2, 0, -1);
        CHECK.due("NOT", x.odds(0, 1, 0), Check.NOT_LONG);
        CHECK.due("h 0", x.odds(0, 0, 0), Check.BAD_LONG);
        CHECK.due("h 7", x.odds(0, 7, 0), Check.BAD_LONG);
        CHECK.due("what 2", x.odds(0, 1, 2), Check.BAD_LONG);
        CHECK.due("what -1", x.odds(0, 1, -1), Check.BAD_LONG);
        CHECK.due("sheet 4", x.odds(4, 1, 0), Check.BAD_LONG);
        CHECK.due("BAD ahead of NULL", x.odds(1, 7, 0), Check.BAD_LONG);
        CHECK.due("BAD ahead of NULL", x.odds(1, 1, 2), Check.BAD_LONG);
        CHECK.due("BAD is no finding", x.count(8), 2);
    }

    private static void missed() {
        FormRoom x = new FormRoom();
        CHECK.due("NULL", x.missed(0, 1, 0), Check.NULL);
        Check.lay(x, 0, 1, 12, 7, 25);
        CHECK.due("two found", x.missed(0, 2, 0), ALL & ~(1 << 12) & ~(1 << 7));
        x.sea(0, 1 << 12 | 1 << 13);
        CHECK.due("of the start", x.missed(0, 2, 0), 1 << 13);
        Check.type(x, 4, "w");
        x.sea(0, 1 << 8 | 1 << 13);
        CHECK.due("without a lot", x.missed(0, 2, 2), 1 << 13);
        CHECK.due("INDEX", x.missed(0, 4, 2), Check.INDEX);
        CHECK.due("NOT", x.missed(0, 3, 2), -3);
        CHECK.due("habit 3", x.missed(0, 2, 3), -2);
        CHECK.due("habit -1", x.missed(0, 2, -1), -2);
        CHECK.due("h 7", x.missed(0, 7, 0), -2);
        CHECK.due("h 0", x.missed(0, 0, 0), -2);
        CHECK.due("sheet -1", x.missed(-1, 1, 0), -2);
        CHECK.due("BAD ahead of NULL", x.missed(1, 1, 3), -2);
        CHECK.due("finding", x.count(8), 2);
    }

    private static void wide() {
        FormRoom x = new FormRoom();
        x.sea(1, 1);
        Check.lay(x, 0, 0, 4);
        CHECK.due("at the edge", x.missed(0, 1, 0), ALL & ~(1 << 4 | 1 << 3 | 1 << 9));
        CHECK.parts("at the edge", x.odds(0, 1, 0), x.odds(0, 1, 1), 3, 25);
        Check.lay(x, 0, 0, 12);
        CHECK.due("within", x.missed(0, 1, 0), ALL & ~(1 << 12 | 1 << 11 | 1 << 13 | 1 << 7 | 1 << 17));
    }

    private static void ladder() {
        FormRoom x = new FormRoom();
        ladderDue(x, 12, 1, 12);
        ladderDue(x, 12, 2, 12, 7);
        ladderDue(x, 12, 5, 12, 7, 2, 1, 0);
        x.sea(0, 1 << 12 | 1 << 18 | 1 << 14);
        ladderDue(x, 12, 3, 12, 13, 14);
        x.habit(1, 9);
        Check.type(x, 3, "s");
        x.sea(0, 1 << 8);
        // only HABIT 0's boat stays in 8, HABIT 1's goes to 13
        ladderDue(x, 12, 2, 12, 13);
        x.habit(0, 9);
        ladderDue(x, 12, 2, 12, 13);
        // HABIT 1's boat can only be met in 13, HABIT 0's in 8 behind that
        ladderDue(x, 12, 4, 12, 13, 8, 3);
        CHECK.due("base 25", x.ladder(25, 1, 0), -2);
        CHECK.due("base -1", x.ladder(-1, 1, 0), -2);
        CHECK.due("h 0", x.ladder(0, 0, 0), -2);
        CHECK.due("h 6", x.ladder(0, 6, 0), -2);
        CHECK.due("i 2", x.ladder(0, 2, 2), -2);
        CHECK.due("i -1", x.ladder(0, 2, -1), -2);
    }

    private static void ladderAtEdges() {
        FormRoom x = new FormRoom();
        x.habit(0, 0);
        // all are alike without lots, so the least row: west or north if there is one, else it stays
        ladderDue(x, 0, 3, 0, 0, 0);
        ladderDue(x, 3, 5, 3, 2, 1, 0, 0);
        ladderDue(x, 10, 5, 10, 5, 0, 0, 0);
        ladderDue(x, 24, 5, 24, 19, 14, 9, 4);
    }

    private static void ladderDue(FormRoom x, int base, int h, int... due) {
        for (int i = 0; i < h; i++) {
            CHECK.due("ladder(" + base + ", " + h + ", " + i + ")", x.ladder(base, h, i), due[i]);
        }
    }

    private static void write() {
        FormRoom x = new FormRoom();
        CHECK.due("NULL", x.write(12, 5, 0), Check.NULL);
        Check.lay(x, 0, 0, 9, 9, 9, 9, 9, 99);
        CHECK.due("five", x.write(12, 5, 0), 5);
        int[] due = {12, 7, 2, 1, 0, 99};
        for (int i = 0; i < 6; i++) {
            CHECK.due("written " + i, x.get(0, 0, i), due[i]);
        }
        Check.lay(x, 1, 2, 8, 8);
        CHECK.due("as many as there are items", x.write(24, 3, 1), 2);
        CHECK.due("written", x.get(1, 2, 1), 19);
        Check.lay(x, 1, 1);
        CHECK.due("none", x.write(24, 3, 1), 0);
        CHECK.due("base 25", x.write(25, 3, 1), -2);
        CHECK.due("h 6", x.write(0, 6, 1), -2);
        CHECK.due("sheet 4", x.write(0, 1, 4), -2);
        CHECK.due("BAD ahead of NULL", x.write(0, 0, 3), -2);
    }
}
