/** Promises 23 to 27 at their edges, a sentence of the document by itself in each test. */
public final class SailingEdgesTest {
    private static final Check CHECK = new Check();
    private static final int BAD = FormRoom.BAD, NONE = FormRoom.NONE;
    private static final int SAILED = 2;

    public static void main(String[] args) {
        aside();
        lossesOfSizes();
        lossesAtTheEnds();
        lossesOfSailed();
        lossesOfKnown();
        lossesInLowestTerms();
        lossesRefused();
        spans();
        outsideTheSpans();
        atLeastM();
        leastLosses();
        sizeOfLikeOnes();
        sizeOfKnown();
        sizeRefused();
        meanOfWeeks();
        meanWithoutBlanks();
        meanOfBoxAndKind();
        meanInLowestTerms();
        meanRefused();
        CHECK.end();
    }

    private static void sails(FormRoom x, int together, int lost) {
        x.form(SAILED, 0, 50, together, lost, -1);
    }

    private static void lossesDue(FormRoom x, int from, int to, int above, int below) {
        CHECK.parts("losses(" + from + ", " + to + ")", x.losses(from, to, 0), x.losses(from, to, 1), above, below);
    }

    private static void noLosses(FormRoom x, int from, int to) {
        CHECK.due("losses(" + from + ", " + to + ", 0)", x.losses(from, to, 0), Check.NOT_LONG);
        CHECK.due("losses(" + from + ", " + to + ", 1)", x.losses(from, to, 1), Check.NOT_LONG);
    }

    private static void aside() {
        CHECK.sentence("with a BLANK in one of them, or b above a, they are aside");
        int[][] forms = {{-1, -1}, {-1, 0}, {-1, 5}, {5, -1}, {5, 6}, {5, 999}, {1, 2}, {0, 1}};
        for (int[] f : forms) {
            FormRoom x = new FormRoom();
            sails(x, f[0], f[1]);
            noLosses(x, 1, 999);
            CHECK.due("size(1)", x.size(1), NONE);
            sails(x, 7, 7);
            lossesDue(x, 1, 999, 1, 1);
            CHECK.due("size(2)", x.size(2), NONE);
        }
        FormRoom x = new FormRoom();
        sails(x, 5, 5);
        lossesDue(x, 1, 999, 1, 1);
        x.fill(0, 2, -1);
        lossesDue(x, 1, 999, 1, 1);
        x.fill(0, 1, 0);
        lossesDue(x, 1, 999, 0, 1);
    }

    private static void lossesOfSizes() {
        CHECK.sentence("LOSSES of SIZES from one to another (1 to 999)");
        FormRoom x = new FormRoom();
        sails(x, 10, 3);
        lossesDue(x, 10, 10, 3, 10);
        lossesDue(x, 9, 10, 3, 10);
        lossesDue(x, 10, 11, 3, 10);
        noLosses(x, 1, 9);
        noLosses(x, 11, 999);
        sails(x, 11, 0);
        lossesDue(x, 10, 11, 1, 7);
        lossesDue(x, 11, 11, 0, 1);
        lossesDue(x, 10, 10, 3, 10);
    }

    private static void lossesAtTheEnds() {
        CHECK.sentence("LOSSES of SIZES (1 to 999): of one alone, of 999, not of none");
        FormRoom x = new FormRoom();
        sails(x, 0, 0);
        noLosses(x, 1, 999);
        sails(x, 1, 1);
        sails(x, 999, 0);
        lossesDue(x, 1, 1, 1, 1);
        lossesDue(x, 999, 999, 0, 1);
        lossesDue(x, 1, 999, 1, 1000);
        lossesDue(x, 1, 998, 1, 1);
        lossesDue(x, 2, 999, 0, 1);
    }

    private static void lossesOfSailed() {
        CHECK.sentence("SAILED FORMS tell how many sailed together in a, how many of them were lost in b");
        for (int kind = 0; kind < 4; kind++) {
            FormRoom x = new FormRoom();
            x.form(kind, 0, 0, 4, 1, 3);
            if (kind == SAILED) {
                lossesDue(x, 4, 4, 1, 4);
                CHECK.due("size(1)", x.size(1), 0);
            } else {
                noLosses(x, 1, 999);
                CHECK.due("size(1) of KIND " + kind, x.size(1), NONE);
            }
        }
    }

    private static void lossesOfKnown() {
        CHECK.sentence("those lost of all such that are KNOWN by all that sailed");
        FormRoom x = new FormRoom();
        x.form(SAILED, 0, 49, 10, 1, 0);
        x.form(SAILED, 0, 50, 10, 9, 0);
        lossesDue(x, 10, 10, 1, 2);
        x.asOf(50);
        lossesDue(x, 10, 10, 1, 2);
        x.asOf(49);
        lossesDue(x, 10, 10, 1, 10);
        x.asOf(48);
        noLosses(x, 10, 10);
    }

    private static void lossesInLowestTerms() {
        CHECK.sentence("LOSSES .. a FRACTION: in lowest terms, above and below (0 by 1)");
        FormRoom x = new FormRoom();
        for (int i = 0; i < 40; i++) {
            sails(x, 999, i < 39 ? 999 : 0);
        }
        lossesDue(x, 999, 999, 39, 40);
        x.fill(39, 1, 999);
        lossesDue(x, 1, 999, 1, 1);
        x.fill(39, 1, 998);
        lossesDue(x, 1, 999, 39959, 39960);
        FormRoom y = new FormRoom();
        sails(y, 6, 4);
        lossesDue(y, 1, 9, 2, 3);
        y.fill(0, 1, 0);
        lossesDue(y, 1, 9, 0, 1);
    }

    private static void lossesRefused() {
        CHECK.sentence("LOSSES: above, below. BAD: also from above to; NOT: no such FORM. (As the least long.)");
        FormRoom x = new FormRoom();
        noLosses(x, 5, 5);
        int[][] bad = {{0, 5, 0}, {-1, 5, 0}, {5, 1000, 0}, {1000, 1000, 0}, {6, 5, 0}, {999, 1, 0}, {5, 0, 0}, {5, 6, 2},
            {5, 6, -1}, {Integer.MIN_VALUE, 5, 0}, {5, Integer.MAX_VALUE, 0}};
        for (int[] b : bad) {
            CHECK.due("BAD ahead of NOT: " + b[0] + ", " + b[1], x.losses(b[0], b[1], b[2]), Check.BAD_LONG);
        }
        sails(x, 5, 1);
        for (int[] b : bad) {
            CHECK.due("BAD: " + b[0] + ", " + b[1], x.losses(b[0], b[1], b[2]), Check.BAD_LONG);
        }
    }

    private static void spans() {
        CHECK.sentence("BEST SIZE: of spans 1 to 9, 10 to 19, .. 90 to 99 (told as 0 to 9)");
        for (int together = 1; together <= 99; together++) {
            FormRoom x = new FormRoom();
            sails(x, together, together);
            CHECK.due(together + " together", x.size(1), together / 10);
        }
    }

    private static void outsideTheSpans() {
        CHECK.sentence("of spans 1 to 9, .. 90 to 99: no others; NONE");
        FormRoom x = new FormRoom();
        CHECK.due("no FORMS", x.size(1), NONE);
        sails(x, 0, 0);
        sails(x, 100, 0);
        sails(x, 999, 0);
        CHECK.due("0, 100 and 999 together", x.size(1), NONE);
        sails(x, 99, 99);
        CHECK.due("99 beside them", x.size(1), 9);
        sails(x, 1, 1);
        CHECK.due("all lost in both", x.size(1), 9);
        x.fill(4, 1, 0);
        CHECK.due("one alone, not lost", x.size(1), 0);
    }

    private static void atLeastM() {
        CHECK.sentence("that has at least m FORMS (m 1 to 9)");
        FormRoom x = new FormRoom();
        for (int there = 1; there <= 10; there++) {
            sails(x, 29 + there, there);
            for (int m = 1; m <= 9; m++) {
                CHECK.due("size(" + m + ") of " + there, x.size(m), there >= m ? 3 : NONE);
            }
        }
        sails(x, 50, 0);
        CHECK.due("one without losses", x.size(1), 5);
        CHECK.due("but it is one", x.size(2), 3);
        sails(x, 50, -1);
        sails(x, -1, 0);
        sails(x, 50, 51);
        x.form(1, 0, 50, 50, 0, 0);
        CHECK.due("those aside are not of them", x.size(2), 3);
        sails(x, 59, 0);
        CHECK.due("two", x.size(2), 5);
        CHECK.due("but they are two", x.size(3), 3);
    }

    private static void leastLosses() {
        CHECK.sentence("the one with the least LOSSES");
        FormRoom x = new FormRoom();
        sails(x, 99, 33);
        sails(x, 9, 3);
        sails(x, 49, 17);
        CHECK.due("17 of 49 are more than a third", x.size(1), 9);
        x.fill(2, 1, 16);
        CHECK.due("16 of 49 are less", x.size(1), 4);
        x.fill(0, 1, 32);
        CHECK.due("32 of 99 are less still", x.size(1), 9);
        // all of a span together: 16 of 49 and 0 of 40
        sails(x, 40, 0);
        CHECK.due("16 of 89", x.size(1), 4);
        sails(x, 41, 41);
        CHECK.due("57 of 130", x.size(1), 9);
    }

    private static void sizeOfLikeOnes() {
        CHECK.sentence("of like ones the greater");
        FormRoom x = new FormRoom();
        for (int span = 0; span <= 9; span++) {
            int together = 10 * span + 2;
            sails(x, together, together / 2);
            CHECK.due("half of each up to " + span, x.size(1), span);
        }
        for (int f = 0; f < 10; f++) {
            x.fill(f, 1, 0);
        }
        CHECK.due("none of any", x.size(1), 9);
        x.fill(9, 1, 1);
        CHECK.due("one of the last", x.size(1), 8);
    }

    private static void sizeOfKnown() {
        CHECK.sentence("such that are KNOWN: in BEST SIZE");
        FormRoom x = new FormRoom();
        x.form(SAILED, 0, 10, 15, 5, 0);
        x.form(SAILED, 0, 11, 16, 5, 0);
        x.form(SAILED, 0, 12, 25, 0, 0);
        CHECK.due("as of 99", x.size(1), 2);
        x.asOf(12);
        CHECK.due("as of 12", x.size(1), 2);
        x.asOf(11);
        CHECK.due("as of 11", x.size(1), 1);
        CHECK.due("as of 11, two", x.size(2), 1);
        x.asOf(10);
        CHECK.due("as of 10, two", x.size(2), NONE);
        x.asOf(9);
        CHECK.due("as of 9", x.size(1), NONE);
    }

    private static void sizeRefused() {
        CHECK.sentence("BEST SIZE; NONE. BAD. (m 1 to 9)");
        FormRoom x = new FormRoom();
        CHECK.due("size(1)", x.size(1), NONE);
        CHECK.due("size(9)", x.size(9), NONE);
        CHECK.due("size(0)", x.size(0), BAD);
        CHECK.due("size(10)", x.size(10), BAD);
        CHECK.due("size(-1)", x.size(-1), BAD);
    }

    private static void meanDue(FormRoom x, int box, int from, int to, int above, int below) {
        String call = "mean(3, " + box + ", " + from + ", " + to + ")";
        CHECK.parts(call, x.mean(3, box, from, to, 0), x.mean(3, box, from, to, 1), above, below);
    }

    private static void noMean(FormRoom x, int kind, int box, int from, int to) {
        CHECK.due("mean above", x.mean(kind, box, from, to, 0), Check.NOT_LONG);
        CHECK.due("mean below", x.mean(kind, box, from, to, 1), Check.NOT_LONG);
    }

    private static void meanOfWeeks() {
        CHECK.sentence("MEAN of a BOX of a KIND in WEEKS from one to another (both with it): of KNOWN FORMS");
        FormRoom x = new FormRoom();
        x.form(3, 0, 0, 2, 0, 0);
        x.form(3, 0, 10, 4, 0, 0);
        x.form(3, 0, 11, 7, 0, 0);
        x.form(3, 0, 99, 10, 0, 0);
        meanDue(x, 0, 10, 10, 4, 1);
        meanDue(x, 0, 10, 11, 11, 2);
        meanDue(x, 0, 9, 12, 11, 2);
        meanDue(x, 0, 0, 0, 2, 1);
        meanDue(x, 0, 99, 99, 10, 1);
        meanDue(x, 0, 0, 99, 23, 4);
        meanDue(x, 0, 0, 98, 13, 3);
        meanDue(x, 0, 1, 99, 7, 1);
        noMean(x, 3, 0, 1, 9);
        noMean(x, 3, 0, 12, 98);
        x.asOf(10);
        meanDue(x, 0, 0, 99, 3, 1);
        noMean(x, 3, 0, 11, 11);
    }

    private static void meanWithoutBlanks() {
        CHECK.sentence("of KNOWN FORMS where it is no BLANK");
        FormRoom x = new FormRoom();
        x.form(3, 0, 5, -1, 0, -1);
        noMean(x, 3, 0, 0, 99);
        meanDue(x, 1, 0, 99, 0, 1);
        x.form(3, 0, 5, 5, 5, -1);
        meanDue(x, 0, 0, 99, 5, 1);
        meanDue(x, 1, 0, 99, 5, 2);
        noMean(x, 3, 2, 0, 99);
    }

    private static void meanOfBoxAndKind() {
        CHECK.sentence("MEAN of a BOX of a KIND");
        FormRoom x = new FormRoom();
        for (int kind = 0; kind < 4; kind++) {
            x.form(kind, kind, 5, 10 * kind, 10 * kind + 1, 10 * kind + 2);
        }
        for (int i = 0; i < 12; i++) {
            CHECK.due("KIND " + i / 3 + ", BOX " + i % 3, x.mean(i / 3, i % 3, 5, 5, 0), 10 * (i / 3) + i % 3);
        }
    }

    private static void meanInLowestTerms() {
        CHECK.sentence("MEAN ..: a FRACTION: in lowest terms, above and below (0 by 1)");
        FormRoom x = new FormRoom();
        for (int i = 0; i < 40; i++) {
            x.form(3, 0, i, 999, 0, i < 8 ? 1 : 0);
        }
        meanDue(x, 0, 0, 99, 999, 1);
        meanDue(x, 1, 0, 99, 0, 1);
        meanDue(x, 2, 0, 99, 1, 5);
        x.fill(0, 0, 998);
        meanDue(x, 0, 0, 99, 39959, 40);
    }

    private static void meanRefused() {
        CHECK.sentence("MEAN: above, below. BAD: also from above to; NOT: there is none. (As the least long.)");
        FormRoom x = new FormRoom();
        noMean(x, 0, 0, 0, 99);
        int[][] bad = {{-1, 0, 0, 99, 0}, {4, 0, 0, 99, 0}, {0, -1, 0, 99, 0}, {0, 3, 0, 99, 0}, {0, 0, -1, 99, 0},
            {0, 0, 0, 100, 0}, {0, 0, 50, 49, 0}, {0, 0, 99, 0, 0}, {0, 0, 100, 100, 0}, {0, 0, 0, -1, 0},
            {0, 0, 0, 99, -1}, {0, 0, 0, 99, 2}};
        for (int there = 0; there < 2; there++) {
            for (int[] b : bad) {
                long got = x.mean(b[0], b[1], b[2], b[3], b[4]);
                CHECK.due("BAD, with " + there + " FORMS", got, Check.BAD_LONG);
            }
            x.form(0, 0, 0, 1, 1, 1);
        }
    }
}
