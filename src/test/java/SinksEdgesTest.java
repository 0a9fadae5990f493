/** Promises 30 and 31, SINKS and ORDER, at their edges, a sentence of the document by itself in each test. */
public final class SinksEdgesTest {
    private static final Check CHECK = new Check();
    private static final int BAD = FormRoom.BAD, NOT = FormRoom.NOT, FULL = FormRoom.FULL, NONE = FormRoom.NONE;
    private static final int WASH = 4, RINSE = 5;

    public static void main(String[] args) {
        minutes();
        minutesOfAnyFormat();
        notLessThanTheOneAhead();
        nobodyComes();
        sixtyCome();
        twoSinks();
        freeSooner();
        inARow();
        washAndRinseAtTheirEnds();
        waitsRefused();
        pairsAtTheirEnds();
        halfAPair();
        sixPairsAtMost();
        noPairs();
        weeksBehindTheEnd();
        doesNotEndWithinT();
        spanOfWeeks();
        firstRowByNumbers();
        mostOfAllRows();
        orderRefused();
        CHECK.end();
    }

    private static void waitsDue(FormRoom x, int either, int row, int... minutes) {
        Check.lay(x, 0, 1, minutes);
        CHECK.due("waits by 0", x.waits(0, 0), either);
        CHECK.due("waits by 1", x.waits(0, 1), row);
    }

    private static FormRoom with(int wash, int rinse) {
        FormRoom x = new FormRoom();
        x.law(WASH, wash);
        x.law(RINSE, rinse);
        return x;
    }

    private static void minutes() {
        CHECK.sentence("a SHEET tells minutes at which people come (items, 0 to 999 ..)");
        for (int by = 0; by < 2; by++) {
            for (int v : new int[] {-1, 1000, Integer.MIN_VALUE, Integer.MAX_VALUE}) {
                FormRoom x = new FormRoom();
                Check.lay(x, 0, 2, v);
                CHECK.due("alone at " + v, x.waits(0, by), NOT);
                Check.lay(x, 0, 2, 0, v);
                CHECK.due("behind 0 at " + v, x.waits(0, by), NOT);
                Check.lay(x, 0, 2, v, 999);
                CHECK.due("ahead of 999 at " + v, x.waits(0, by), NOT);
            }
            FormRoom x = new FormRoom();
            for (int v : new int[] {0, 999}) {
                Check.lay(x, 0, 2, v);
                CHECK.due("alone at " + v, x.waits(0, by), 0);
            }
            Check.lay(x, 0, 2, 0, 999);
            CHECK.due("at 0 and 999", x.waits(0, by), 0);
        }
    }

    private static void minutesOfAnyFormat() {
        CHECK.sentence("SINKS: a SHEET tells minutes: of any FORMAT");
        FormRoom x = new FormRoom();
        for (int format = 0; format < 3; format++) {
            Check.lay(x, format, format, 127, 127, 127);
            CHECK.due("FORMAT " + format, x.waits(format, 0), 5);
        }
        Check.lay(x, 0, 0, 128);
        CHECK.due("a byte 128 may not be", x.waits(0, 0), NOT);
        Check.lay(x, 1, 1, 65536);
        CHECK.due("a short 65536 is 0", x.waits(1, 0), 0);
    }

    private static void notLessThanTheOneAhead() {
        CHECK.sentence("(.. not less than the one ahead)");
        FormRoom x = new FormRoom();
        Check.lay(x, 0, 1, 5, 5, 5, 5);
        CHECK.holds("all alike", x.waits(0, 0) > 0);
        for (int i = 1; i < 4; i++) {
            Check.lay(x, 0, 1, 5, 5, 5, 5);
            x.lay(0, 1, i, 4);
            CHECK.due("item " + i + " is one less", x.waits(0, 0), NOT);
            CHECK.due("item " + i + " is one less", x.waits(0, 1), NOT);
        }
        Check.lay(x, 0, 1, 4, 5, 5, 6);
        CHECK.holds("rising", x.waits(0, 1) > 0);
    }

    private static void nobodyComes() {
        CHECK.sentence("of all together: of nobody");
        for (int format = 0; format < 3; format++) {
            FormRoom x = new FormRoom();
            x.sheet(3, format, 0);
            CHECK.due("waits(3, 0)", x.waits(3, 0), 0);
            CHECK.due("waits(3, 1)", x.waits(3, 1), 0);
            CHECK.due("count(8)", x.count(8), 0);
        }
    }

    private static void sixtyCome() {
        CHECK.sentence("of all together: of sixty");
        FormRoom x = with(30, 30);
        waitsDue(x, 2 * 60 * (29 * 30 / 2), 30 * (59 * 60 / 2), new int[60]);
        x.law(WASH, 1);
        x.law(RINSE, 1);
        waitsDue(x, 2 * 2 * (29 * 30 / 2), 59 * 60 / 2, new int[60]);
        int[] apart = new int[60];
        for (int i = 0; i < 60; i++) {
            apart[i] = i;
        }
        waitsDue(x, 0, 0, apart);
    }

    private static void twoSinks() {
        CHECK.sentence("By 0: two sinks, each does both at one of them, one after the other");
        FormRoom x = with(2, 3);
        waitsDue(x, 0, 0, 7);
        waitsDue(x, 0, 3, 7, 7);
        waitsDue(x, 5, 9, 7, 7, 7);
        waitsDue(x, 10, 18, 7, 7, 7, 7);
        waitsDue(x, 20, 30, 7, 7, 7, 7, 7);
        // the third comes as the first goes, a minute sooner, a minute later
        waitsDue(x, 0, 4, 0, 0, 5);
        waitsDue(x, 1, 5, 0, 0, 4);
        waitsDue(x, 0, 3, 0, 0, 6);
    }

    private static void freeSooner() {
        CHECK.sentence("who comes first goes to the one that is free sooner (of like ones the first)");
        FormRoom x = with(5, 5);
        // free at 10 and 12: the third at 10, the fourth at 12, the fifth at 20
        waitsDue(x, 7 + 8 + 15, 3 + 7 + 11 + 15, 0, 2, 3, 4, 5);
        // both are free again: as at first
        waitsDue(x, 0, 5 + 5, 0, 0, 50, 50);
        waitsDue(x, 10 + 9, 5 + 10 + 4 + 9, 0, 0, 0, 11, 11);
    }

    private static void inARow() {
        CHECK.sentence("By 1: all wash at the first, then rinse at the second, in the order they come.");
        waitsDue(with(2, 3), 0, 1, 0, 2);
        waitsDue(with(2, 3), 0, 0, 0, 3);
        waitsDue(with(3, 2), 0, 1, 0, 2);
        waitsDue(with(3, 2), 0, 0, 0, 3);
        waitsDue(with(3, 3), 0, 1, 0, 2);
        waitsDue(with(3, 3), 0, 0, 0, 3);
        // washed at 9, 18, 27, rinsed two minutes behind it
        waitsDue(with(9, 2), 11, 9 + 18, 0, 0, 0);
        // washed at 2, 4, 6, rinsed at 11, 20, 29
        waitsDue(with(2, 9), 11, 9 + 18, 0, 0, 0);
    }

    private static void washAndRinseAtTheirEnds() {
        CHECK.sentence("Each washes (WASH minutes) and rinses (RINSE minutes): 1 to 30 each");
        waitsDue(with(1, 1), 2, 1 + 2, 0, 0, 0);
        waitsDue(with(30, 30), 60, 30 + 60, 0, 0, 0);
        waitsDue(with(1, 30), 31, 30 + 60, 0, 0, 0);
        waitsDue(with(30, 1), 31, 30 + 60, 0, 0, 0);
        waitsDue(with(30, 30), 60, 30 + 60, 999, 999, 999);
    }

    private static void waitsRefused() {
        CHECK.sentence("WAITS by 0 or 1. BAD; NULL; NOT: minutes that may not be.");
        FormRoom x = new FormRoom();
        CHECK.due("NULL", x.waits(2, 0), Check.NULL);
        CHECK.due("count(8)", x.count(8), 1);
        CHECK.due("BAD ahead of NULL", x.waits(2, 2), BAD);
        CHECK.due("BAD ahead of NULL", x.waits(2, -1), BAD);
        Check.lay(x, 2, 2, 5, 4);
        CHECK.due("NOT", x.waits(2, 0), NOT);
        CHECK.due("BAD ahead of NOT", x.waits(2, 2), BAD);
        x.lose(2);
        CHECK.due("NULL of what was NOT", x.waits(2, 0), Check.NULL);
        CHECK.due("SHEET 4", x.waits(4, 0), BAD);
        CHECK.due("SHEET -1", x.waits(-1, 0), BAD);
    }

    private static void orderDue(FormRoom x, int t, int most, int first, int... pairs) {
        Check.lay(x, 0, 1, pairs);
        CHECK.due("order(0, " + t + ", 0)", x.order(0, t, 0), most);
        CHECK.due("order(0, " + t + ", 1)", x.order(0, t, 1), first);
    }

    private static void pairsAtTheirEnds() {
        CHECK.sentence("WEEKS it takes (1 to 20), what it saves each WEEK from then on (0 to 99)");
        FormRoom x = new FormRoom();
        orderDue(x, 50, 49 * 99, 0, 1, 99);
        orderDue(x, 50, 30, 0, 20, 1);
        orderDue(x, 50, 0, 0, 1, 0);
        orderDue(x, 50, NOT, NOT, 0, 1);
        orderDue(x, 50, NOT, NOT, 21, 1);
        orderDue(x, 50, NOT, NOT, 1, -1);
        orderDue(x, 50, NOT, NOT, 1, 100);
        for (int i = 0; i < 12; i++) {
            int[] pairs = {1, 1, 1, 1, 1, 1, 1, 1, 1, 1, 1, 1};
            pairs[i] = -1;
            orderDue(x, 50, NOT, NOT, pairs);
        }
    }

    private static void halfAPair() {
        CHECK.sentence("NOT: numbers that may not be, half a pair");
        for (int n = 1; n <= 13; n += 2) {
            FormRoom x = new FormRoom();
            int[] items = new int[n];
            java.util.Arrays.fill(items, 1);
            orderDue(x, 50, NOT, NOT, items);
        }
    }

    private static void sixPairsAtMost() {
        CHECK.sentence("6 pairs at most (FULL)");
        FormRoom x = new FormRoom();
        orderDue(x, 7, 6 + 5 + 4 + 3 + 2 + 1, 0, 1, 1, 1, 1, 1, 1, 1, 1, 1, 1, 1, 1);
        orderDue(x, 7, FULL, FULL, 1, 1, 1, 1, 1, 1, 1, 1, 1, 1, 1, 1, 1, 1);
        // what is NOT is so ahead of FULL, also behind the sixth pair
        orderDue(x, 7, NOT, NOT, 1, 1, 1, 1, 1, 1, 1, 1, 1, 1, 1, 1, 1, 100);
        orderDue(x, 7, NOT, NOT, 0, 1, 1, 1, 1, 1, 1, 1, 1, 1, 1, 1, 1, 1);
        orderDue(x, 7, NOT, NOT, 1, 1, 1, 1, 1, 1, 1, 1, 1, 1, 1, 1, 1, 1, 1);
        int[] thirty = new int[60];
        java.util.Arrays.fill(thirty, 1);
        orderDue(x, 7, FULL, FULL, thirty);
    }

    private static void noPairs() {
        CHECK.sentence("the first (1; NONE: there are no pairs)");
        FormRoom x = new FormRoom();
        orderDue(x, 1, 0, NONE);
        orderDue(x, 200, 0, NONE);
        orderDue(x, 1, 0, 0, 20, 99);
    }

    private static void weeksBehindTheEnd() {
        CHECK.sentence("WEEKS of the T behind its end times what it saves");
        FormRoom x = new FormRoom();
        orderDue(x, 19, 0, 0, 20, 99);
        orderDue(x, 20, 0, 0, 20, 99);
        orderDue(x, 21, 99, 0, 20, 99);
        orderDue(x, 22, 198, 0, 20, 99);
        // one after the other: the first ends with WEEK 3, the second with WEEK 7
        orderDue(x, 8, 5 * 7 + 2, 0, 3, 7, 4, 2, 20, 99);
    }

    private static void doesNotEndWithinT() {
        CHECK.sentence("what does not end within T saves nothing");
        FormRoom x = new FormRoom();
        // the second would end behind T, by any number of WEEKS: it takes nothing away
        orderDue(x, 5, 4, 0, 1, 1, 20, 99);
        orderDue(x, 5, 4, 1, 20, 99, 1, 1);
        orderDue(x, 5, 0, 0, 6, 99, 7, 99, 20, 99);
        orderDue(x, 1, 0, 0, 1, 99, 1, 99);
        orderDue(x, 2, 99, 0, 1, 99, 1, 99);
    }

    private static void spanOfWeeks() {
        CHECK.sentence("over T WEEKS (1 to 200)");
        FormRoom x = new FormRoom();
        orderDue(x, 1, 0, 0, 1, 99);
        orderDue(x, 200, 199 * 99, 0, 1, 99);
        orderDue(x, 200, 99 * (199 + 198 + 197 + 196 + 195 + 194), 0, 1, 99, 1, 99, 1, 99, 1, 99, 1, 99, 1, 99);
        orderDue(x, 200, 99 * (180 + 160 + 140 + 120 + 100 + 80), 0, 20, 99, 20, 99, 20, 99, 20, 99, 20, 99, 20, 99);
        CHECK.due("T 0", x.order(0, 0, 0), BAD);
        CHECK.due("T 201", x.order(0, 201, 0), BAD);
        CHECK.due("T -1", x.order(0, -1, 1), BAD);
    }

    private static void firstRowByNumbers() {
        CHECK.sentence("which is first in the first row (by numbers) with the most");
        FormRoom x = new FormRoom();
        orderDue(x, 10, 9 * 5 + 8 * 5, 0, 1, 5, 1, 5);
        // 1 and 2 are alike, 0 is best last
        orderDue(x, 10, 9 * 50 + 8 * 50 + 3, 1, 5, 1, 1, 50, 1, 50);
        // what saves nothing is first, if nothing is lost by it
        orderDue(x, 10, 0, 0, 20, 0, 1, 0);
        orderDue(x, 10, 9, 1, 20, 0, 1, 1);
        // 2 by 4 and 1 by 2 are alike in either order
        orderDue(x, 10, 8 * 4 + 7 * 2, 0, 2, 4, 1, 2);
        orderDue(x, 10, 8 * 4 + 7 * 2, 0, 1, 2, 2, 4);
    }

    private static void mostOfAllRows() {
        CHECK.sentence("MOST: .. one after the other, what is saved in all");
        FormRoom x = new FormRoom();
        // what saves most by the WEEKS it takes goes first, be it neither the shortest nor the greatest
        orderDue(x, 20, 18 * 3 + 15 * 4 + 14, 1, 3, 4, 2, 3, 1, 1);
        // the first alone would be worth most each WEEK, but ends too late
        orderDue(x, 12, 11 * 10 + 9 * 10, 1, 20, 99, 1, 10, 2, 10);
        orderDue(x, 25, 24 * 10 + 22 * 10 + 2 * 99, 1, 20, 99, 1, 10, 2, 10);
        // here it is best first: behind both others it would end too late
        orderDue(x, 23, 3 * 99 + 1, 0, 20, 99, 2, 1, 2, 1);
    }

    private static void orderRefused() {
        CHECK.sentence("ORDER: .. BAD; NULL; NOT ..; FULL.");
        FormRoom x = new FormRoom();
        CHECK.due("NULL", x.order(1, 5, 0), Check.NULL);
        CHECK.due("count(8)", x.count(8), 1);
        CHECK.due("BAD ahead of NULL", x.order(1, 201, 0), BAD);
        CHECK.due("BAD ahead of NULL", x.order(1, 0, 0), BAD);
        CHECK.due("BAD ahead of NULL", x.order(1, 5, 2), BAD);
        CHECK.due("BAD ahead of NULL", x.order(1, 5, -1), BAD);
        Check.lay(x, 1, 2, 1, 1, 1);
        CHECK.due("BAD ahead of NOT", x.order(1, 5, 2), BAD);
        x.sheet(1, 2, 14);
        CHECK.due("NOT ahead of FULL", x.order(1, 5, 0), NOT);
        x.lose(1);
        CHECK.due("NULL of what was NOT", x.order(1, 5, 0), Check.NULL);
        CHECK.due("SHEET 4", x.order(4, 5, 0), BAD);
        CHECK.due("SHEET -1", x.order(-1, 5, 0), BAD);
    }
}
