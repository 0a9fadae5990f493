/** Promises 28 to 31: hours, plan, waits, order. */
public final class HoursTest {
    private static final Check CHECK = new Check();

    public static void main(String[] args) {
        hours();
        plan();
        everyPlan();
        waits();
        waitsRefused();
        order();
        orderRefused();
        CHECK.end();
    }

    private static void hours() {
        FormRoom x = new FormRoom();
        x.law(6, 0);
        CHECK.due("one week", x.hours(1, 1), 10);
        CHECK.due("two weeks", x.hours(1, 2), 20);
        CHECK.due("never mended", x.hours(1, 20), 20);
        x.law(6, 1);
        CHECK.due("mended once of three", x.hours(1, 3), 20);
        CHECK.due("mended once of five", x.hours(1, 5), 40);
        CHECK.due("20 weeks", x.hours(1, 20), 140);
        // unmended 16 flights; one more by mending in WEEK 1 and in WEEK 18, two more in each between
        CHECK.due("eight flyers, a shed", x.hours(8, 20), 10 * (16 + 1 + 2 * 16 + 1));
        CHECK.due("n 0", x.hours(0, 1), -2);
        CHECK.due("n 9", x.hours(9, 1), -2);
        CHECK.due("weeks 0", x.hours(1, 0), -2);
        CHECK.due("weeks 21", x.hours(1, 21), -2);
        x.law(6, 2);
        int less = x.hours(8, 10);
        CHECK.due("fewer weeks behind more", x.hours(8, 20) > less ? 1 : 0, 1);
        CHECK.due("more weeks ahead of fewer", x.hours(8, 10), less);
    }

    private static void plan() {
        FormRoom x = new FormRoom();
        x.law(6, 1);
        int[][] due = {{1, 1, 0}, {1, 0, 0}, {0, 0, 1}, {1, 1, 0}, {1, 0, 0}};
        for (int i = 0; i < 5; i++) {
            for (int what = 0; what < 3; what++) {
                CHECK.due("plan(1, 5, " + i + ", " + what + ")", x.plan(1, 5, i, what), due[i][what]);
            }
        }
        for (int what = 0; what < 3; what++) {
            CHECK.due("no use in mending, " + what, x.plan(1, 3, 2, what), 0);
        }
        CHECK.due("one week", x.plan(8, 1, 0, 0), 8);
        int hours = 0;
        x.law(6, 3);
        for (int i = 0; i < 17; i++) {
            hours += 10 * x.plan(7, 17, i, 0);
        }
        CHECK.due("the plan's hours", hours, x.hours(7, 17));
        CHECK.due("n 0", x.plan(0, 1, 0, 0), -2);
        CHECK.due("n 9", x.plan(9, 1, 0, 0), -2);
        CHECK.due("weeks 0", x.plan(1, 0, 0, 0), -2);
        CHECK.due("weeks 21", x.plan(1, 21, 0, 0), -2);
        CHECK.due("week 5 of 5", x.plan(1, 5, 5, 0), -2);
        CHECK.due("week -1", x.plan(1, 5, -1, 0), -2);
        CHECK.due("what 3", x.plan(1, 5, 0, 3), -2);
        CHECK.due("what -1", x.plan(1, 5, 0, -1), -2);
    }

    /** All that can be asked of MENDING, against the plain model. */
    private static void everyPlan() {
        for (int sheds = 0; sheds <= 8; sheds++) {
            PlainRoom plain = new PlainRoom();
            plain.law(6, sheds);
            for (int n = 1; n <= 8; n++) {
                for (int weeks = 1; weeks <= 20; weeks++) {
                    planOf(plain, sheds, n, weeks);
                }
            }
        }
    }

    private static void planOf(PlainRoom plain, int sheds, int n, int weeks) {
        FormRoom x = new FormRoom();
        x.law(6, sheds);
        CHECK.due("hours(" + n + ", " + weeks + ")", x.hours(n, weeks), plain.hours(n, weeks));
        for (int i = 0; i < 3 * weeks; i++) {
            String call = "SHEDS " + sheds + ": plan(" + n + ", " + weeks + ", " + i / 3 + ", " + i % 3 + ")";
            CHECK.due(call, x.plan(n, weeks, i / 3, i % 3), plain.plan(n, weeks, i / 3, i % 3));
        }
    }

    private static void waits() {
        FormRoom x = new FormRoom();
        Check.lay(x, 0, 1, 0, 0, 0, 0, 999);
        CHECK.due("two at a time", x.waits(0, 0), 10);
        CHECK.due("in a row", x.waits(0, 1), 3 + 6 + 9);
        x.law(4, 7);
        CHECK.due("washing takes longer", x.waits(0, 1), 7 + 14 + 21);
        Check.lay(x, 0, 1, 5, 6, 7);
        CHECK.due("the third waits for the first", x.waits(0, 0), 8);
        Check.lay(x, 0, 1);
        CHECK.due("nobody", x.waits(0, 0), 0);
        CHECK.due("nobody", x.waits(0, 1), 0);
    }

    private static void waitsRefused() {
        FormRoom x = new FormRoom();
        CHECK.due("NULL", x.waits(0, 0), Check.NULL);
        CHECK.due("finding", x.count(8), 1);
        Check.lay(x, 0, 2, 0, 999, 1000);
        CHECK.due("1000", x.waits(0, 0), -3);
        Check.lay(x, 0, 2, -1, 5);
        CHECK.due("-1", x.waits(0, 1), -3);
        Check.lay(x, 0, 2, 5, 5, 4);
        CHECK.due("less than the one ahead", x.waits(0, 1), -3);
        CHECK.due("by 2", x.waits(0, 2), -2);
        CHECK.due("by -1", x.waits(0, -1), -2);
        CHECK.due("sheet 4", x.waits(4, 0), -2);
        CHECK.due("BAD ahead of NULL", x.waits(1, 2), -2);
    }

    private static void order() {
        FormRoom x = new FormRoom();
        Check.lay(x, 0, 0, 3, 10, 3, 10, 1, 1);
        CHECK.due("most", x.order(0, 10, 0), 70 + 40 + 3);
        CHECK.due("first of like ones", x.order(0, 10, 1), 0);
        Check.lay(x, 0, 0, 20, 99, 1, 1);
        CHECK.due("ends with T", x.order(0, 20, 0), 19);
        CHECK.due("the short one first", x.order(0, 20, 1), 1);
        CHECK.due("a week behind it", x.order(0, 21, 0), 99);
        CHECK.due("the long one first", x.order(0, 21, 1), 0);
        CHECK.due("200 weeks", x.order(0, 200, 0), 180 * 99 + 179);
        Check.lay(x, 0, 0, 1, 0, 1, 0);
        CHECK.due("nothing saved", x.order(0, 9, 0), 0);
        CHECK.due("the first of all", x.order(0, 9, 1), 0);
        Check.lay(x, 0, 0, 6, 1, 5, 1, 4, 1, 3, 1, 2, 1, 1, 1);
        CHECK.due("six pairs", x.order(0, 21, 0), 20 + 18 + 15 + 11 + 6);
        CHECK.due("the shortest first", x.order(0, 21, 1), 5);
    }

    private static void orderRefused() {
        FormRoom x = new FormRoom();
        CHECK.due("NULL", x.order(0, 1, 0), Check.NULL);
        Check.lay(x, 0, 2, 0, 5);
        CHECK.due("takes 0", x.order(0, 5, 0), -3);
        Check.lay(x, 0, 2, 21, 5);
        CHECK.due("takes 21", x.order(0, 5, 0), -3);
        Check.lay(x, 0, 2, 1, -1);
        CHECK.due("saves -1", x.order(0, 5, 0), -3);
        Check.lay(x, 0, 2, 1, 100);
        CHECK.due("saves 100", x.order(0, 5, 0), -3);
        Check.lay(x, 0, 2, 20, 99, 1);
        CHECK.due("half a pair", x.order(0, 5, 0), -3);
        Check.lay(x, 0, 2, 1, 1, 1, 1, 1, 1, 1, 1, 1, 1, 1, 1, 1, 1);
        CHECK.due("seven", x.order(0, 5, 1), -4);
        x.lay(0, 2, 13, 100);
        CHECK.due("NOT ahead of FULL", x.order(0, 5, 1), -3);
        CHECK.due("T 0", x.order(0, 0, 0), -2);
        CHECK.due("T 201", x.order(0, 201, 0), -2);
        CHECK.due("what 2", x.order(0, 5, 2), -2);
        CHECK.due("what -1", x.order(0, 5, -1), -2);
        CHECK.due("sheet -1", x.order(-1, 5, 0), -2);
        CHECK.due("BAD ahead of NULL", x.order(1, 0, 0), -2);
        Check.lay(x, 0, 2);
        CHECK.due("no pairs", x.order(0, 5, 0), 0);
        CHECK.due("no first", x.order(0, 5, 1), -1);
    }
}
