/** Promises 13 to 16 at their edges, a sentence of the document by itself in each test. */
public final class DepthsEdgesTest {
    private static final Check CHECK = new Check();
    private static final int BAD = FormRoom.BAD;
    private static final int DIVE = 0, DEEPEST = 1, SPEED = 2, BURST = 3;

    public static void main(String[] args) {
        lawsAtFirst();
        lawsAtTheirEnds();
        noSuchLaw();
        depthIsCut();
        deepestAtMost();
        spreadIsCut();
        burstAtLeast();
        noMoreThanBurst();
        shareIsCut();
        greatNumbers();
        sinksRefused();
        worthOfDropped();
        worthOfSecondsInA();
        worthOfKnown();
        worthOfAllTogether();
        blankWorthMost();
        blankWorthLeast();
        blanksEachForItself();
        worthRefused();
        worthAtTheEnds();
        depthsAreEvery25();
        depthUpTo300();
        depthOfLikeOnes();
        depthByTheLeastWorth();
        depthOfKnown();
        CHECK.end();
    }

    /** A room where a boat is s feet deep behind s seconds and the spread is a tenth of that, or BURST. */
    private static FormRoom plain(int burst) {
        FormRoom x = new FormRoom();
        x.law(DIVE, 10);
        x.law(DEEPEST, 999);
        x.law(SPEED, 1);
        x.law(BURST, burst);
        return x;
    }

    private static void lawsAtFirst() {
        CHECK.sentence("0 DIVE (.. 20 at first), 1 DEEPEST (.. 300), 2 SPEED (.. 30), 3 BURST (.. 20), .. (2), .. (3), .. (2)");
        int[] first = {20, 300, 30, 20, 2, 3, 2};
        FormRoom x = new FormRoom();
        for (int which = 0; which < 7; which++) {
            CHECK.due("law(" + which + ", 1)", x.law(which, 1), first[which]);
        }
    }

    private static void lawsAtTheirEnds() {
        CHECK.sentence("DIVE (1 to 99), DEEPEST (1 to 999), SPEED (1 to 99), BURST (1 to 99), WASH (1 to 30), RINSE (1 to 30), SHEDS (0 to 8)");
        int[] least = {1, 1, 1, 1, 1, 1, 0};
        int[] most = {99, 999, 99, 99, 30, 30, 8};
        for (int which = 0; which < 7; which++) {
            FormRoom x = new FormRoom();
            x.law(which, 5);
            CHECK.due("below the least of " + which, x.law(which, least[which] - 1), BAD);
            CHECK.due("above the greatest of " + which, x.law(which, most[which] + 1), BAD);
            CHECK.due("the least of " + which, x.law(which, least[which]), 5);
            CHECK.due("the greatest of " + which, x.law(which, most[which]), least[which]);
            CHECK.due("the greatest again", x.law(which, most[which]), most[which]);
        }
    }

    private static void noSuchLaw() {
        CHECK.sentence("LAWS are seven numbers");
        for (int which : new int[] {-1, 7, Integer.MIN_VALUE, Integer.MAX_VALUE}) {
            CHECK.due("law(" + which + ", 1)", new FormRoom().law(which, 1), BAD);
        }
    }

    private static void depthIsCut() {
        CHECK.sentence("as deep as s times DIVE by 10 .. What is divided is cut.");
        FormRoom x = plain(1);
        x.law(DIVE, 1);
        // 9 seconds: not yet a foot; 19: one foot; 20: two feet
        CHECK.due("sinks(1, 9)", x.sinks(1, 9), 1000000);
        CHECK.due("sinks(2, 9)", x.sinks(2, 9), 0);
        CHECK.due("sinks(2, 10)", x.sinks(2, 10), 1000000);
        CHECK.due("sinks(2, 19)", x.sinks(2, 19), 1000000);
        CHECK.due("sinks(3, 19)", x.sinks(3, 19), 0);
        CHECK.due("sinks(0, 19)", x.sinks(0, 19), 1000000);
        CHECK.due("sinks(3, 20)", x.sinks(3, 20), 250000);
        CHECK.due("sinks(0, 20)", x.sinks(0, 20), 0);
    }

    private static void deepestAtMost() {
        CHECK.sentence("DEEPEST at most");
        FormRoom x = plain(1);
        // spread of 999 seconds: 99
        CHECK.due("sinks(999, 999)", x.sinks(999, 999), 102);
        x.law(DIVE, 99);
        CHECK.due("sinks(999, 999)", x.sinks(999, 999), 102);
        CHECK.due("sinks(998, 999)", x.sinks(998, 999), 102);
        CHECK.due("sinks(997, 999)", x.sinks(997, 999), 0);
        // 100 seconds: 990 feet; 101: 999 and a rest; 102: 1009
        CHECK.due("sinks(991, 100)", x.sinks(991, 100), 10000);
        CHECK.due("sinks(992, 100)", x.sinks(992, 100), 0);
        CHECK.due("sinks(998, 101)", x.sinks(998, 101), 10000);
        CHECK.due("sinks(998, 102)", x.sinks(998, 102), 10000);
        x.law(DEEPEST, 1);
        CHECK.due("sinks(2, 999)", x.sinks(2, 999), 102);
        CHECK.due("sinks(3, 999)", x.sinks(3, 999), 0);
        CHECK.due("sinks(0, 999)", x.sinks(0, 999), 102);
        CHECK.due("not yet under", x.sinks(1, 0), 1000000);
    }

    private static void spreadIsCut() {
        CHECK.sentence("SPREAD is s times SPEED by 10 .. What is divided is cut.");
        FormRoom x = plain(1);
        x.law(DEEPEST, 1);
        CHECK.due("sinks(1, 19)", x.sinks(1, 19), 1000000);
        CHECK.due("sinks(1, 20)", x.sinks(1, 20), 250000);
        CHECK.due("sinks(1, 29)", x.sinks(1, 29), 250000);
        CHECK.due("sinks(1, 30)", x.sinks(1, 30), 111111);
        x.law(SPEED, 99);
        // 9890 and a rest
        CHECK.due("sinks(1, 999)", x.sinks(1, 999), 0);
        CHECK.due("sinks(1, 1)", x.sinks(1, 1), 12345);
    }

    private static void burstAtLeast() {
        CHECK.sentence("SPREAD .. BURST at least");
        FormRoom x = new FormRoom();
        CHECK.due("a spread of 0", x.sinks(0, 0), 1000000);
        CHECK.due("a spread of 18", x.sinks(12, 6), 1000000);
        CHECK.due("a spread of 21", x.sinks(14, 7), 907029);
        FormRoom y = plain(10);
        CHECK.due("a spread of 9", y.sinks(99, 99), 1000000);
        CHECK.due("a spread of 10", y.sinks(109, 109), 1000000);
        CHECK.due("a spread of 11", y.sinks(110, 110), 826446);
    }

    private static void noMoreThanBurst() {
        CHECK.sentence("if its depth is no more than BURST from x .. 0 else");
        for (int burst : new int[] {1, 2, 20, 98, 99}) {
            FormRoom x = plain(burst);
            x.law(SPEED, 99);
            x.law(BURST, burst);
            long share = (long) burst * burst * 1000000 / (1980L * 1980);
            CHECK.due(burst + " above", x.sinks(200 - burst, 200), share);
            CHECK.due(burst + " and one above", x.sinks(200 - burst - 1, 200), 0);
            CHECK.due(burst + " below", x.sinks(200 + burst, 200), share);
            CHECK.due(burst + " and one below", x.sinks(200 + burst + 1, 200), 0);
            CHECK.due("just there", x.sinks(200, 200), share);
            CHECK.due(burst + " from the top", x.sinks(burst, 0), 1000000);
            CHECK.due(burst + " and one from the top", x.sinks(burst + 1, 0), 0);
        }
    }

    private static void shareIsCut() {
        CHECK.sentence("BURST times BURST times 1000000 by (SPREAD times SPREAD), in millionths");
        FormRoom x = plain(1);
        x.law(DEEPEST, 1);
        // spreads 6, 7 and 99
        CHECK.due("27777.7", x.sinks(1, 60), 27777);
        CHECK.due("20408.1", x.sinks(1, 70), 20408);
        CHECK.due("102.03", x.sinks(1, 990), 102);
        x.law(SPEED, 10);
        CHECK.due("1.002", x.sinks(1, 999), 1);
        x.law(SPEED, 11);
        CHECK.due("0.8", x.sinks(1, 999), 0);
    }

    private static void greatNumbers() {
        CHECK.sentence("BURST times BURST times 1000000: more than an int holds");
        FormRoom x = new FormRoom();
        x.law(BURST, 99);
        x.law(SPEED, 99);
        CHECK.due("a spread of 99", x.sinks(0, 10), 1000000);
        CHECK.due("a spread of 108", x.sinks(0, 11), 840277);
        CHECK.due("a spread of 9890", x.sinks(300, 999), 100);
    }

    private static void sinksRefused() {
        CHECK.sentence("SINKS it: millionths, for x (0 to 999) and s seconds (0 to 999). BAD.");
        FormRoom x = new FormRoom();
        CHECK.due("sinks(0, 0)", x.sinks(0, 0), 1000000);
        CHECK.due("sinks(999, 999)", x.sinks(999, 999), 0);
        for (int v : new int[] {-1, 1000, Integer.MIN_VALUE, Integer.MAX_VALUE}) {
            CHECK.due("sinks(" + v + ", 0)", x.sinks(v, 0), BAD);
            CHECK.due("sinks(0, " + v + ")", x.sinks(0, v), BAD);
        }
    }

    private static void worthOfDropped() {
        CHECK.sentence("DROPPED FORMS tell the seconds in a.");
        for (int kind = 0; kind < 4; kind++) {
            FormRoom x = new FormRoom();
            x.form(kind, 0, 0, 0, 0, 0);
            CHECK.due("KIND " + kind, x.worth(0, 0), kind == 1 ? 1000000 : 0);
            x.fill(0, 0, -1);
            CHECK.due("KIND " + kind + ", BLANK", x.worth(0, 1), kind == 1 ? 1000000 : 0);
        }
    }

    private static void worthOfSecondsInA() {
        CHECK.sentence("DROPPED FORMS tell the seconds in a: up to 999, b and c BLANK or not");
        FormRoom x = plain(1);
        x.form(1, 0, 0, 999, 0, -1);
        CHECK.due("worth(999, 0)", x.worth(999, 0), 102);
        CHECK.due("worth(999, 1)", x.worth(999, 1), 102);
        CHECK.due("worth(0, 1)", x.worth(0, 1), 0);
        x.fill(0, 1, -1);
        CHECK.due("worth(999, 0)", x.worth(999, 0), 102);
    }

    private static void worthOfKnown() {
        CHECK.sentence("these shares of all KNOWN ones together");
        FormRoom x = new FormRoom();
        x.form(1, 0, 50, 0, 0, 0);
        x.asOf(49);
        CHECK.due("as of 49", x.worth(0, 1), 0);
        x.asOf(50);
        CHECK.due("as of 50", x.worth(0, 0), 1000000);
        x.fill(0, 0, -1);
        x.asOf(49);
        CHECK.due("BLANK, as of 49", x.worth(0, 1), 0);
    }

    private static void worthOfAllTogether() {
        CHECK.sentence("these shares of all KNOWN ones together: of forty");
        FormRoom x = new FormRoom();
        CHECK.due("of none", x.worth(0, 1), 0);
        for (int i = 0; i < 40; i++) {
            x.form(1, 0, 0, 7, 0, 0);
        }
        // each share is cut by itself
        CHECK.due("the least", x.worth(14, 0), 40 * 907029);
        CHECK.due("the greatest", x.worth(14, 1), 40 * 907029);
        for (int i = 0; i < 40; i++) {
            x.fill(i, 0, 0);
        }
        CHECK.due("the most that can be", x.worth(0, 0), 40000000);
    }

    private static void blankWorthMost() {
        CHECK.sentence("BLANK being whatever is worth .. of 0 to 120), the greatest (most).");
        FormRoom x = plain(1);
        x.form(1, 0, 0, -1, 0, 0);
        CHECK.due("only 0 and 1 seconds", x.worth(0, 1), 1000000);
        // 119 and 120 reach it with spreads of 11 and 12, 121 would
        CHECK.due("119 on", x.worth(120, 1), 8264);
        CHECK.due("120 alone", x.worth(121, 1), 6944);
        CHECK.due("121 on", x.worth(122, 1), 0);
        x.law(DIVE, 99);
        CHECK.due("0 seconds alone", x.worth(1, 1), 1000000);
        CHECK.due("1 second alone", x.worth(9, 1), 1000000);
        CHECK.due("between them", x.worth(5, 1), 0);
    }

    private static void blankWorthLeast() {
        CHECK.sentence("the least (BLANK being whatever is worth least of 0 to 120)");
        FormRoom x = new FormRoom();
        x.law(DEEPEST, 1);
        x.law(BURST, 99);
        x.law(SPEED, 99);
        x.form(1, 0, 0, -1, 0, 0);
        // all are in reach; the spread of 120 seconds is 1188, that of 121 would be 1197
        CHECK.due("120 seconds", x.worth(50, 0), 6944);
        CHECK.due("0 seconds, out of reach", x.worth(100, 0), 0);
        CHECK.due("1 second, in reach", x.worth(100, 1), 1000000);
        x.law(DIVE, 1);
        CHECK.due("9 seconds, out of reach", x.worth(100, 0), 0);
        CHECK.due("10 seconds, in reach", x.worth(100, 1), 1000000);
    }

    private static void blanksEachForItself() {
        CHECK.sentence("BLANK being whatever is worth least: each for itself");
        FormRoom x = new FormRoom();
        x.law(DEEPEST, 1);
        x.law(BURST, 99);
        x.law(SPEED, 99);
        for (int i = 0; i < 40; i++) {
            x.form(1, 0, i, -1, 0, 0);
        }
        CHECK.due("forty of the least", x.worth(50, 0), 40 * 6944);
        CHECK.due("forty of the greatest", x.worth(50, 1), 40000000);
        x.fill(7, 0, 0);
        CHECK.due("one filled in", x.worth(50, 0), 39 * 6944 + 1000000);
        x.asOf(7);
        CHECK.due("as of 7", x.worth(50, 0), 7 * 6944 + 1000000);
    }

    private static void worthRefused() {
        CHECK.sentence("WORTH of x: the least (end = 0), the greatest (1). BAD.");
        FormRoom x = new FormRoom();
        for (int v : new int[] {-1, 1000}) {
            CHECK.due("worth(" + v + ", 0)", x.worth(v, 0), BAD);
        }
        for (int v : new int[] {-1, 2}) {
            CHECK.due("worth(0, " + v + ")", x.worth(0, v), BAD);
        }
    }

    private static void worthAtTheEnds() {
        CHECK.sentence("A charge set for x feet (0 to 999)");
        FormRoom x = plain(1);
        x.form(1, 0, 0, 0, 0, 0);
        CHECK.due("worth(0, 0)", x.worth(0, 0), 1000000);
        x.fill(0, 0, 998);
        CHECK.due("worth(999, 0)", x.worth(999, 0), 102);
    }

    private static void depthsAreEvery25() {
        CHECK.sentence("BEST DEPTH: of 0, 25, .. 300");
        FormRoom x = plain(12);
        x.form(1, 0, 0, 0, 0, 0);
        for (int seconds = 0; seconds <= 312; seconds++) {
            x.fill(0, 0, seconds);
            // 12 feet to either side, so each second has one of them
            CHECK.due("a boat " + seconds + " deep", x.depth(), (seconds + 12) / 25 * 25);
            if (seconds % 200 == 199) {
                x = plain(12);
                x.form(1, 0, 0, 0, 0, 0);
            }
        }
    }

    private static void depthUpTo300() {
        CHECK.sentence("BEST DEPTH: of 0, 25, .. 300: no deeper");
        FormRoom x = plain(12);
        x.form(1, 0, 0, 312, 0, 0);
        CHECK.due("312 deep", x.depth(), 300);
        x.fill(0, 0, 313);
        CHECK.due("313 deep", x.depth(), 0);
        x.fill(0, 0, 325);
        CHECK.due("325 deep", x.depth(), 0);
    }

    private static void depthOfLikeOnes() {
        CHECK.sentence("the one with the greatest least WORTH, of like ones the least");
        FormRoom x = plain(13);
        x.form(1, 0, 0, 287, 0, 0);
        CHECK.due("275 and 300 alike", x.depth(), 275);
        x.fill(0, 0, 12);
        CHECK.due("0 and 25 alike", x.depth(), 0);
        x.form(1, 0, 0, 26, 0, 0);
        CHECK.due("25 has both", x.depth(), 25);
        x.fill(0, 0, 130);
        x.fill(1, 0, 201);
        CHECK.due("the surer one", x.depth(), 125);
        x.fill(1, 0, 125);
        CHECK.due("both", x.depth(), 125);
        CHECK.due("none at all", new FormRoom().depth(), 0);
    }

    private static void depthByTheLeastWorth() {
        CHECK.sentence("the greatest least WORTH");
        FormRoom x = plain(12);
        x.form(1, 0, 0, 300, 0, 0);
        for (int i = 0; i < 39; i++) {
            x.form(1, 0, 0, -1, 0, 0);
        }
        CHECK.holds("0 has the greater greatest WORTH", x.worth(0, 1) > x.worth(300, 1));
        CHECK.due("depth()", x.depth(), 300);
    }

    private static void depthOfKnown() {
        CHECK.sentence("WORTH of x: .. of all KNOWN ones: in BEST DEPTH");
        FormRoom x = plain(12);
        x.form(1, 0, 49, 100, 0, 0);
        x.form(1, 0, 50, 50, 0, 0);
        CHECK.due("as of 99", x.depth(), 50);
        x.asOf(50);
        CHECK.due("as of 50", x.depth(), 50);
        x.asOf(49);
        CHECK.due("as of 49", x.depth(), 100);
        x.asOf(48);
        CHECK.due("as of 48", x.depth(), 0);
    }
}
