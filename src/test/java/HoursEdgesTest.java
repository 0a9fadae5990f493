/** Promises 28 and 29, MENDING, at their edges, a sentence of the document by itself in each test. */
public final class HoursEdgesTest {
    private static final Check CHECK = new Check();
    private static final int BAD = FormRoom.BAD;
    private static final int SHEDS = 6;

    public static void main(String[] args) {
        oneToEight();
        tenHoursEach();
        wornThenDone();
        shedsForAll();
        shedsAreFew();
        lawOfTheDay();
        anyOrderOfCalls();
        planBehindLongerOnes();
        hoursRefused();
        asManyFly();
        wornAreMended();
        fewestAreMended();
        noneIsMendedAtTheEnd();
        withoutSheds();
        allSheds();
        planIsOfTheMost();
        planRefused();
        CHECK.end();
    }

    private static FormRoom with(int sheds) {
        FormRoom x = new FormRoom();
        x.law(SHEDS, sheds);
        return x;
    }

    /** Each WEEK as how many fly, FRESH ones, mended ones. */
    private static void planDue(int sheds, int n, int[]... weeks) {
        FormRoom x = with(sheds);
        for (int i = 0; i < weeks.length; i++) {
            for (int what = 0; what < 3; what++) {
                String call = "SHEDS " + sheds + ": plan(" + n + ", " + weeks.length + ", " + i + ", " + what + ")";
                CHECK.due(call, x.plan(n, weeks.length, i, what), weeks[i][what]);
            }
        }
    }

    private static int[] week(int fly, int fresh, int mended) {
        return new int[] {fly, fresh, mended};
    }

    private static void oneToEight() {
        CHECK.sentence("n flyers (1 to 8), all FRESH; .. Over so many WEEKS (1 to 20)");
        for (int sheds = 0; sheds <= 8; sheds++) {
            FormRoom x = with(sheds);
            for (int n = 1; n <= 8; n++) {
                CHECK.due("hours(" + n + ", 1)", x.hours(n, 1), 10 * n);
                CHECK.due("hours(" + n + ", 2)", x.hours(n, 2), 20 * n);
                CHECK.holds("hours(" + n + ", 20)", x.hours(n, 20) >= 20 * n);
            }
        }
    }

    private static void tenHoursEach() {
        CHECK.sentence("some of those FRESH or WORN fly, ten hours each");
        FormRoom x = with(1);
        CHECK.due("hours(1, 1)", x.hours(1, 1), 10);
        CHECK.due("hours(1, 4)", x.hours(1, 4), 30);
    }

    private static void wornThenDone() {
        CHECK.sentence("who was FRESH is WORN behind it, who was WORN is DONE");
        for (int n = 1; n <= 8; n++) {
            FormRoom x = with(0);
            for (int weeks = 2; weeks <= 20; weeks++) {
                CHECK.due("hours(" + n + ", " + weeks + ")", x.hours(n, weeks), 20 * n);
            }
        }
    }

    private static void shedsForAll() {
        CHECK.sentence("up to SHEDS are mended, and FRESH behind it: a shed for each");
        // two WEEKS of three are flown, and of what is left over all
        for (int n = 1; n <= 8; n++) {
            FormRoom x = with(n);
            FormRoom y = with(8);
            for (int weeks = 1; weeks <= 20; weeks++) {
                int due = 10 * n * (weeks - weeks / 3);
                CHECK.due("hours(" + n + ", " + weeks + ")", x.hours(n, weeks), due);
                CHECK.due("hours(" + n + ", " + weeks + ") with all SHEDS", y.hours(n, weeks), due);
            }
        }
    }

    private static void shedsAreFew() {
        CHECK.sentence("of those that do not fly, up to SHEDS are mended");
        FormRoom x = with(1);
        // two flyers, three WEEKS: one flies, is mended and flies, or both fly twice
        CHECK.due("hours(2, 3)", x.hours(2, 3), 40);
        // behind four flights the one shed gives the first a fifth, or WEEK 1 in it gives a fifth and a sixth
        CHECK.due("hours(2, 4)", x.hours(2, 4), 60);
        CHECK.due("hours(8, 3)", x.hours(8, 3), 160);
        CHECK.due("hours(8, 4)", x.hours(8, 4), 180);
        CHECK.due("one more shed", with(2).hours(8, 4), 200);
    }

    private static void lawOfTheDay() {
        CHECK.sentence("SHEDS (0 to 8; 2 at first): as it is when it is asked");
        FormRoom x = new FormRoom();
        CHECK.due("2 at first", x.hours(3, 4), 90);
        CHECK.due("mended in WEEK 1", x.plan(3, 4, 1, 2), 1);
        x.law(SHEDS, 0);
        CHECK.due("SHEDS 0", x.hours(3, 4), 60);
        CHECK.due("SHEDS 0, mended", x.plan(3, 4, 1, 2), 0);
        CHECK.due("a BAD law", x.law(SHEDS, 9), BAD);
        CHECK.due("SHEDS 0 still", x.hours(3, 4), 60);
        x.law(SHEDS, 2);
        CHECK.due("SHEDS 2", x.hours(3, 4), 90);
        CHECK.due("SHEDS 2, mended", x.plan(3, 4, 1, 2), 1);
    }

    private static void anyOrderOfCalls() {
        CHECK.sentence("The most HOURS of n flyers over so many WEEKS: whatever was asked ahead of it");
        FormRoom x = with(3);
        int most = x.hours(7, 20);
        int fewer = x.hours(7, 9);
        CHECK.due("hours(1, 20)", x.hours(1, 20), 140);
        CHECK.due("hours(7, 9)", x.hours(7, 9), fewer);
        CHECK.due("hours(8, 1)", x.hours(8, 1), 80);
        CHECK.due("plan(7, 1, 0, 0)", x.plan(7, 1, 0, 0), 7);
        CHECK.due("hours(7, 20)", x.hours(7, 20), most);
        CHECK.due("hours(7, 20) of a new room", with(3).hours(7, 20), most);
        CHECK.due("hours(7, 9) of a new room", with(3).hours(7, 9), fewer);
    }

    private static void planBehindLongerOnes() {
        CHECK.sentence("In WEEK i of THE PLAN: whatever was asked ahead of it");
        int[][] due = {week(3, 3, 0), week(2, 0, 1), week(1, 1, 2), week(3, 2, 0)};
        FormRoom x = new FormRoom();
        x.hours(3, 20);
        for (int i = 3; i >= 0; i--) {
            for (int what = 0; what < 3; what++) {
                CHECK.due("plan(3, 4, " + i + ", " + what + ")", x.plan(3, 4, i, what), due[i][what]);
            }
            x.plan(8, 20, 19, 0);
            x.plan(3, 5 + i, i, 0);
        }
    }

    private static void hoursRefused() {
        CHECK.sentence("The most HOURS of n flyers over so many WEEKS. BAD.");
        FormRoom x = new FormRoom();
        int[][] bad = {{0, 1}, {-1, 1}, {9, 1}, {1, 0}, {1, -1}, {1, 21}, {Integer.MAX_VALUE, 1},
            {1, Integer.MAX_VALUE}, {Integer.MIN_VALUE, 1}, {1, Integer.MIN_VALUE}};
        for (int[] b : bad) {
            CHECK.due("hours(" + b[0] + ", " + b[1] + ")", x.hours(b[0], b[1]), BAD);
            CHECK.due("plan(" + b[0] + ", " + b[1] + ", 0, 0)", x.plan(b[0], b[1], 0, 0), BAD);
        }
        CHECK.holds("hours(8, 20)", x.hours(8, 20) > 0);
    }

    private static void asManyFly() {
        CHECK.sentence("THE PLAN: each WEEK as many fly as can be with that");
        planDue(0, 1, week(1, 1, 0), week(1, 0, 0), week(0, 0, 0));
        planDue(1, 1, week(1, 1, 0), week(1, 0, 0), week(0, 0, 0));
        planDue(8, 8, week(8, 8, 0));
        planDue(8, 8, week(8, 8, 0), week(8, 0, 0));
    }

    private static void wornAreMended() {
        CHECK.sentence("then as few as can be are mended of those WORN");
        // one that is WORN goes to the sheds in WEEK 1: else they could not mend all in WEEK 2
        planDue(2, 3, week(3, 3, 0), week(2, 0, 1), week(1, 1, 2), week(3, 2, 0));
    }

    private static void fewestAreMended() {
        CHECK.sentence("then as few of those DONE");
        planDue(2, 2, week(2, 2, 0), week(2, 0, 0), week(0, 0, 0));
        planDue(8, 8, week(8, 8, 0), week(8, 0, 0), week(0, 0, 0));
        // WEEK 3 is soon enough for it
        planDue(8, 1, week(1, 1, 0), week(1, 0, 0), week(0, 0, 0), week(0, 0, 1), week(1, 1, 0), week(1, 0, 0));
    }

    private static void noneIsMendedAtTheEnd() {
        CHECK.sentence("as few as can be are mended: in the last WEEK none");
        for (int sheds = 0; sheds <= 8; sheds++) {
            FormRoom x = with(sheds);
            for (int weeks = 1; weeks <= 20; weeks++) {
                CHECK.due("SHEDS " + sheds + ", " + weeks + " WEEKS", x.plan(8, weeks, weeks - 1, 2), 0);
            }
        }
    }

    private static void withoutSheds() {
        CHECK.sentence("up to SHEDS (0 to 8) are mended: with none of them");
        for (int n = 1; n <= 8; n++) {
            planDue(0, n, week(n, n, 0), week(n, 0, 0), week(0, 0, 0), week(0, 0, 0));
        }
    }

    private static void allSheds() {
        CHECK.sentence("up to SHEDS (0 to 8) are mended: with all of them");
        int[][] weeks = new int[20][];
        for (int i = 0; i < 20; i++) {
            weeks[i] = i % 3 == 0 ? week(8, 8, 0) : i % 3 == 1 ? week(8, 0, 0) : week(0, 0, 8);
        }
        planDue(8, 8, weeks);
    }

    private static void planIsOfTheMost() {
        CHECK.sentence("In WEEK i (from 0) of THE PLAN: how many fly, of these FRESH ones, how many are mended");
        for (int sheds = 0; sheds <= 8; sheds++) {
            for (int n = 1; n <= 8; n++) {
                FormRoom x = with(sheds);
                int fresh = n;
                int worn = 0;
                int flights = 0;
                for (int i = 0; i < 20; i++) {
                    int fly = x.plan(n, 20, i, 0);
                    int flyFresh = x.plan(n, 20, i, 1);
                    int mended = x.plan(n, 20, i, 2);
                    String where = "SHEDS " + sheds + ", " + n + " flyers, WEEK " + i;
                    CHECK.holds(where + ": so many are FRESH", flyFresh >= 0 && flyFresh <= fresh);
                    CHECK.holds(where + ": so many are WORN", fly >= flyFresh && fly - flyFresh <= worn);
                    CHECK.holds(where + ": so many SHEDS there are", mended >= 0 && mended <= sheds);
                    int done = n - fresh - worn;
                    int wornMended = Math.max(0, mended - done);
                    CHECK.holds(where + ": so many need it", mended <= done + worn - (fly - flyFresh));
                    fresh += mended - flyFresh;
                    worn += flyFresh - (fly - flyFresh) - wornMended;
                    flights += fly;
                }
                CHECK.due("SHEDS " + sheds + ", the HOURS of " + n, 10 * flights, x.hours(n, 20));
            }
        }
    }

    private static void planRefused() {
        CHECK.sentence("In WEEK i (from 0) of THE PLAN .. BAD.");
        FormRoom x = new FormRoom();
        for (int weeks = 1; weeks <= 20; weeks++) {
            CHECK.holds("the last of " + weeks, x.plan(8, weeks, weeks - 1, 0) >= 0);
            CHECK.due("behind the last of " + weeks, x.plan(8, weeks, weeks, 0), BAD);
            CHECK.due("ahead of the first of " + weeks, x.plan(8, weeks, -1, 0), BAD);
        }
        CHECK.due("what -1", x.plan(1, 1, 0, -1), BAD);
        CHECK.due("what 3", x.plan(1, 1, 0, 3), BAD);
        CHECK.due("i the greatest int", x.plan(1, 1, Integer.MAX_VALUE, 0), BAD);
        CHECK.due("i the least int", x.plan(1, 1, Integer.MIN_VALUE, 0), BAD);
    }
}
