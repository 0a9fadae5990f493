/** Promises 13 to 16: law, sinks, worth, depth. */
public final class DepthsTest {
    private static final Check CHECK = new Check();

    public static void main(String[] args) {
        law();
        sinks();
        worth();
        depth();
        CHECK.end();
    }

    private static void law() {
        FormRoom x = new FormRoom();
        int[] first = {20, 300, 30, 20, 2, 3, 2};
        int[] least = {1, 1, 1, 1, 1, 1, 0};
        int[] most = {99, 999, 99, 99, 30, 30, 8};
        for (int which = 0; which < 7; which++) {
            CHECK.due("below " + which, x.law(which, least[which] - 1), -2);
            CHECK.due("above " + which, x.law(which, most[which] + 1), -2);
            CHECK.due("least " + which, x.law(which, least[which]), first[which]);
            CHECK.due("most " + which, x.law(which, most[which]), least[which]);
            CHECK.due("back " + which, x.law(which, first[which]), most[which]);
        }
        CHECK.due("law 7", x.law(7, 1), -2);
        CHECK.due("law -1", x.law(-1, 1), -2);
    }

    private static void sinks() {
        FormRoom x = new FormRoom();
        CHECK.due("at once", x.sinks(0, 0), 1000000);
        CHECK.due("20 from it", x.sinks(20, 0), 1000000);
        CHECK.due("21 from it", x.sinks(21, 0), 0);
        CHECK.due("below it by 20", x.sinks(180, 100), 4444);
        CHECK.due("below it by 21", x.sinks(179, 100), 0);
        CHECK.due("above it by 20", x.sinks(220, 100), 4444);
        CHECK.due("above it by 21", x.sinks(221, 100), 0);
        CHECK.due("spread is burst", x.sinks(12, 6), 1000000);
        CHECK.due("spread is 21", x.sinks(14, 7), 907029);
        CHECK.due("deepest", x.sinks(320, 999), 44);
        CHECK.due("not deeper", x.sinks(321, 999), 0);
        CHECK.due("x 999", x.sinks(999, 0), 0);
        CHECK.due("x 1000", x.sinks(1000, 0), -2);
        CHECK.due("x -1", x.sinks(-1, 0), -2);
        CHECK.due("s 1000", x.sinks(0, 1000), -2);
        CHECK.due("s -1", x.sinks(0, -1), -2);
        x.law(0, 7);
        CHECK.due("depth is cut", x.sinks(20, 1), 1000000);
        CHECK.due("depth is cut", x.sinks(21, 1), 0);
        x.law(3, 99);
        x.law(2, 99);
        CHECK.due("no number runs over", x.sinks(0, 11), 9801L * 1000000 / (108 * 108));
        x.law(3, 1);
        CHECK.due("least", x.sinks(300, 999), 1000000 / (9890 * 9890));
        CHECK.due("a spread of 1", x.sinks(0, 0), 1000000);
    }

    private static void worth() {
        FormRoom x = new FormRoom();
        CHECK.due("none", x.worth(0, 1), 0);
        x.form(1, 0, 5, 0, 0, 0);
        x.form(0, 0, 5, 0, 0, 0);
        x.form(2, 0, 5, 0, 0, 0);
        x.form(1, 0, 6, -1, 0, 0);
        CHECK.due("least", x.worth(0, 0), 1000000);
        CHECK.due("greatest", x.worth(0, 1), 2000000);
        x.asOf(5);
        CHECK.due("known", x.worth(0, 1), 1000000);
        x.asOf(4);
        CHECK.due("none known", x.worth(0, 1), 0);
        x.asOf(99);
        x.law(0, 99);
        x.law(3, 1);
        CHECK.due("the greatest blank is 0 seconds", x.worth(0, 1), 2000000);
        CHECK.due("the greatest blank is 1 second", x.worth(9, 1), 1000000 / 9);
        x.law(0, 20);
        x.law(1, 1);
        x.law(3, 99);
        // all are in reach, the spread of 120 seconds is 360
        CHECK.due("the least blank is 120 seconds", x.worth(50, 0), 1000000 + 9801000000L / (360 * 360));
        CHECK.due("x 1000", x.worth(1000, 0), -2);
        CHECK.due("x -1", x.worth(-1, 0), -2);
        CHECK.due("end 2", x.worth(0, 2), -2);
        CHECK.due("end -1", x.worth(0, -1), -2);
        CHECK.due("x 999", x.worth(999, 0), 0);
    }

    private static void depth() {
        FormRoom x = new FormRoom();
        CHECK.due("without forms", x.depth(), 0);
        x.form(1, 0, 50, 100, 0, 0);
        CHECK.due("200 deep", x.depth(), 200);
        x.form(1, 0, 60, 150, 0, 0);
        x.form(1, 0, 60, 150, 0, 0);
        CHECK.due("300 deep, less sure", x.depth(), 200);
        x.form(1, 0, 60, 150, 0, 0);
        CHECK.due("300 deep, thrice", x.depth(), 300);
        x.asOf(59);
        CHECK.due("as of", x.depth(), 200);
        x.fill(0, 0, 56);
        CHECK.due("of like ones the least", x.depth(), 100);
        x.fill(0, 0, 56);
        for (int i = 0; i < 9; i++) {
            x.form(1, 0, 50, -1, 0, 0);
        }
        CHECK.due("by the least worth, not the greatest", x.depth(), 100);
    }
}
