/** Promises 26 and 27 at their edges, a sentence of the document by itself in each test. */
public final class ChangesEdgesTest {
    private static final Check CHECK = new Check();

    public static void main(String[] args) {
        eightWeeks();
        weeksFromXOn();
        weeksAheadOfX();
        yAmongThem();
        changesAtTheEnds();
        weeksDoNotWrap();
        meansThatAreNotThere();
        didWithoutBlanks();
        didOfKnown();
        didInLowestTerms();
        didRefused();
        ownAndOthers();
        allOthersTogether();
        leansOfEachCrew();
        leansNot();
        leansOfKnown();
        leansInLowestTerms();
        leansRefused();
        CHECK.end();
    }

    private static void didDue(FormRoom x, int at, int y, int above, int below) {
        CHECK.parts("did at " + at + " beside " + y, x.did(1, 0, at, y, 0), x.did(1, 0, at, y, 1), above, below);
    }

    private static void didNot(FormRoom x, int at, int y) {
        CHECK.due("did at " + at + " beside " + y, x.did(1, 0, at, y, 0), Check.NOT_LONG);
        CHECK.due("did at " + at + " beside " + y, x.did(1, 0, at, y, 1), Check.NOT_LONG);
    }

    private static void drops(FormRoom x, int week, int a) {
        x.form(1, 0, week, a, -1, -1);
    }

    private static void eightWeeks() {
        CHECK.sentence("MEAN in the WEEKS from x on, up to 3 behind it, less MEAN in the 4 WEEKS ahead of it");
        for (int week = 40; week < 60; week++) {
            FormRoom x = new FormRoom();
            drops(x, 46, 10);
            drops(x, 53, 10);
            drops(x, week, 30);
            boolean ahead = week >= 46 && week <= 49;
            boolean behind = week >= 50 && week <= 53;
            didDue(x, 50, 90, ahead ? -10 : behind ? 10 : 0, 1);
        }
    }

    private static void weeksFromXOn() {
        CHECK.sentence("the WEEKS from x on, up to 3 behind it");
        for (int week = 48; week < 60; week++) {
            FormRoom x = new FormRoom();
            drops(x, 47, 1);
            drops(x, week, 5);
            if (week >= 50 && week <= 53) {
                didDue(x, 50, 0, 4, 1);
            } else {
                didNot(x, 50, 0);
            }
        }
    }

    private static void weeksAheadOfX() {
        CHECK.sentence("the 4 WEEKS ahead of it");
        for (int week = 40; week < 52; week++) {
            FormRoom x = new FormRoom();
            drops(x, 52, 1);
            drops(x, week, 5);
            if (week >= 46 && week <= 49) {
                didDue(x, 50, 0, -4, 1);
            } else {
                didNot(x, 50, 0);
            }
        }
    }

    private static void yAmongThem() {
        CHECK.sentence("only if y is not among these 8 WEEKS.");
        FormRoom x = new FormRoom();
        drops(x, 49, 2);
        drops(x, 50, 9);
        for (int y = 0; y < 100; y++) {
            if (y >= 46 && y <= 53) {
                didNot(x, 50, y);
            } else {
                didDue(x, 50, y, 7, 1);
            }
        }
    }

    private static void changesAtTheEnds() {
        CHECK.sentence("CHANGES are made in WEEKS x and y (0 to 99).");
        FormRoom x = new FormRoom();
        drops(x, 0, 1);
        drops(x, 1, 3);
        drops(x, 98, 6);
        drops(x, 99, 10);
        didDue(x, 1, 5, 2, 1);
        didNot(x, 1, 0);
        didNot(x, 1, 4);
        didDue(x, 1, 99, 2, 1);
        didNot(x, 0, 50);
        didDue(x, 99, 0, 4, 1);
        didDue(x, 99, 94, 4, 1);
        didNot(x, 99, 95);
        didNot(x, 99, 99);
        didNot(x, 98, 0);
        drops(x, 95, 0);
        didDue(x, 98, 0, 8, 1);
        didDue(x, 99, 0, 7, 1);
    }

    private static void weeksDoNotWrap() {
        CHECK.sentence("the 4 WEEKS ahead of it, up to 3 behind it: none before WEEK 0 or behind WEEK 99");
        FormRoom x = new FormRoom();
        drops(x, 0, 4);
        drops(x, 2, 5);
        drops(x, 97, 50);
        drops(x, 99, 70);
        didDue(x, 2, 98, 1, 1);
        didDue(x, 2, 99, 1, 1);
        didDue(x, 98, 0, 20, 1);
        didDue(x, 98, 1, 20, 1);
        didNot(x, 0, 99);
        didDue(x, 1, 97, 1, 1);
    }

    private static void meansThatAreNotThere() {
        CHECK.sentence("NOT: y is among these WEEKS, or a MEAN is not there.");
        FormRoom x = new FormRoom();
        didNot(x, 50, 0);
        drops(x, 50, 1);
        didNot(x, 50, 0);
        didNot(x, 51, 0);
        drops(x, 49, 1);
        didDue(x, 50, 0, 0, 1);
        x.fill(0, 0, -1);
        didNot(x, 50, 0);
        x.fill(0, 0, 1);
        x.fill(1, 0, -1);
        didNot(x, 50, 0);
    }

    private static void didWithoutBlanks() {
        CHECK.sentence("MEAN: of KNOWN FORMS where it is no BLANK: in DID");
        FormRoom x = new FormRoom();
        drops(x, 49, 6);
        drops(x, 50, 9);
        drops(x, 49, -1);
        drops(x, 50, -1);
        x.form(2, 0, 49, 900, 900, 900);
        x.form(0, 0, 50, 900, 900, 900);
        didDue(x, 50, 0, 3, 1);
        x.fill(2, 0, 0);
        x.fill(3, 0, 0);
        didDue(x, 50, 0, 3, 2);
        x.fill(0, 2, 4);
        x.fill(1, 2, 1);
        CHECK.parts("BOX c", x.did(1, 2, 50, 0, 0), x.did(1, 2, 50, 0, 1), -3, 1);
        CHECK.due("BOX b", x.did(1, 1, 50, 0, 0), Check.NOT_LONG);
    }

    private static void didOfKnown() {
        CHECK.sentence("MEAN: of KNOWN FORMS: in DID");
        FormRoom x = new FormRoom();
        drops(x, 49, 6);
        drops(x, 50, 9);
        drops(x, 53, 1);
        didDue(x, 50, 0, -1, 1);
        x.asOf(53);
        didDue(x, 50, 0, -1, 1);
        x.asOf(52);
        didDue(x, 50, 0, 3, 1);
        x.asOf(49);
        didNot(x, 50, 0);
    }

    private static void didInLowestTerms() {
        CHECK.sentence("FRACTIONS are told in lowest terms, above and below (0 by 1): DID");
        FormRoom x = new FormRoom();
        drops(x, 46, 0);
        drops(x, 50, 999);
        didDue(x, 50, 0, 999, 1);
        drops(x, 51, 0);
        didDue(x, 50, 0, 999, 2);
        x.fill(0, 0, 999);
        didDue(x, 50, 0, -999, 2);
        x.fill(1, 0, 0);
        didDue(x, 50, 0, -999, 1);
        drops(x, 47, 1);
        drops(x, 48, 0);
        drops(x, 52, 1);
        // a third less 1000 by 3
        didDue(x, 50, 0, -333, 1);
        x.fill(0, 0, 0);
        didDue(x, 50, 0, 0, 1);
        drops(x, 53, 0);
        // a fourth less a third
        didDue(x, 50, 0, -1, 12);
    }

    private static void didRefused() {
        CHECK.sentence("DID: above, below. BAD; NOT .. (As the least long.)");
        FormRoom x = new FormRoom();
        int[][] bad = {{-1, 0, 50, 0, 0}, {4, 0, 50, 0, 0}, {1, -1, 50, 0, 0}, {1, 3, 50, 0, 0}, {1, 0, -1, 50, 0},
            {1, 0, 100, 50, 0}, {1, 0, 50, -1, 0}, {1, 0, 50, 100, 0}, {1, 0, 50, 0, -1}, {1, 0, 50, 0, 2},
            {1, 0, 50, 50, 2}, {1, 0, -1, -1, 0}, {1, 0, 100, 100, 0}, {1, 0, 97, 100, 0}, {1, 0, 0, -1, 0}};
        for (int there = 0; there < 2; there++) {
            for (int[] b : bad) {
                long got = x.did(b[0], b[1], b[2], b[3], b[4]);
                CHECK.due("BAD at " + b[2] + " beside " + b[3], got, Check.BAD_LONG);
            }
            drops(x, 49, 1);
            drops(x, 50, 1);
        }
    }

    private static void leansDue(FormRoom x, int crew, int box, int above, int below) {
        String call = "leans(" + crew + ", 0, " + box + ")";
        CHECK.parts(call, x.leans(crew, 0, box, 0), x.leans(crew, 0, box, 1), above, below);
    }

    private static void leansNot(FormRoom x, int crew, int box) {
        CHECK.due("leans(" + crew + ", 0, " + box + ", 0)", x.leans(crew, 0, box, 0), Check.NOT_LONG);
        CHECK.due("leans(" + crew + ", 0, " + box + ", 1)", x.leans(crew, 0, box, 1), Check.NOT_LONG);
    }

    private static void ownAndOthers() {
        CHECK.sentence("LEANS: a CREW's MEAN of a BOX of a KIND .. less that of all other CREWS");
        FormRoom x = new FormRoom();
        x.form(0, 2, 0, 10, 1, 7);
        x.form(0, 3, 99, 4, 2, 7);
        x.form(1, 3, 50, 999, 999, 999);
        x.form(2, 2, 50, 999, 999, 999);
        leansDue(x, 2, 0, 6, 1);
        leansDue(x, 3, 0, -6, 1);
        leansDue(x, 2, 1, -1, 1);
        leansDue(x, 2, 2, 0, 1);
        x.form(0, 2, 50, 3, 0, 0);
        leansDue(x, 2, 0, 5, 2);
        leansDue(x, 3, 0, -5, 2);
    }

    private static void allOthersTogether() {
        CHECK.sentence("that of all other CREWS: their FORMS together");
        FormRoom x = new FormRoom();
        x.form(0, 0, 0, 10, 0, 0);
        x.form(0, 1, 0, 0, 0, 0);
        x.form(0, 2, 0, 6, 0, 0);
        x.form(0, 2, 0, 6, 0, 0);
        leansDue(x, 0, 0, 6, 1);
        leansDue(x, 1, 0, -22, 3);
    }

    private static void leansOfEachCrew() {
        CHECK.sentence("a CREW (0 to 7): its MEAN less that of all others");
        FormRoom x = new FormRoom();
        for (int crew = 0; crew < 8; crew++) {
            x.form(0, crew, 0, crew, 0, 0);
        }
        // the sum is 28, so 7 crew less (28 less crew) are eight crew less 28, by 7
        int[][] due = {{-4, 1}, {-20, 7}, {-12, 7}, {-4, 7}, {4, 7}, {12, 7}, {20, 7}, {4, 1}};
        for (int crew = 0; crew < 8; crew++) {
            leansDue(x, crew, 0, due[crew][0], due[crew][1]);
        }
    }

    private static void leansNot() {
        CHECK.sentence("LEANS: above, below. BAD; NOT: one of the MEANS is not there");
        FormRoom x = new FormRoom();
        leansNot(x, 0, 0);
        x.form(0, 0, 0, 5, 0, -1);
        leansNot(x, 0, 0);
        leansNot(x, 7, 0);
        x.form(0, 7, 0, -1, 0, 5);
        leansNot(x, 0, 0);
        leansNot(x, 7, 0);
        leansNot(x, 0, 2);
        leansNot(x, 7, 2);
        leansDue(x, 0, 1, 0, 1);
        x.fill(1, 0, 5);
        leansDue(x, 0, 0, 0, 1);
        leansNot(x, 3, 0);
    }

    private static void leansOfKnown() {
        CHECK.sentence("(all KNOWN WEEKS)");
        FormRoom x = new FormRoom();
        x.form(0, 0, 0, 5, 0, 0);
        x.form(0, 1, 0, 1, 0, 0);
        x.form(0, 0, 50, 9, 0, 0);
        x.form(0, 1, 51, 3, 0, 0);
        x.form(0, 0, 99, 1, 0, 0);
        leansDue(x, 0, 0, 3, 1);
        x.asOf(98);
        leansDue(x, 0, 0, 5, 1);
        x.asOf(51);
        leansDue(x, 0, 0, 5, 1);
        x.asOf(50);
        leansDue(x, 0, 0, 6, 1);
        x.asOf(49);
        leansDue(x, 0, 0, 4, 1);
        x.fill(1, 0, -1);
        leansNot(x, 0, 0);
    }

    private static void leansInLowestTerms() {
        CHECK.sentence("FRACTIONS are told in lowest terms, above and below (0 by 1): LEANS");
        FormRoom x = new FormRoom();
        for (int i = 0; i < 40; i++) {
            x.form(0, i < 20 ? 0 : 1 + i % 7, i, i < 20 ? 999 : 0, i % 2, i < 20 ? 0 : 999);
        }
        leansDue(x, 0, 0, 999, 1);
        leansDue(x, 0, 1, 0, 1);
        leansDue(x, 0, 2, -999, 1);
        x.fill(0, 0, 998);
        leansDue(x, 0, 0, 19979, 20);
        x.fill(39, 0, 1);
        leansDue(x, 0, 0, 9989, 10);
    }

    private static void leansRefused() {
        CHECK.sentence("LEANS: .. BAD; NOT. (As the least long.)");
        FormRoom x = new FormRoom();
        int[][] bad = {{-1, 0, 0, 0}, {8, 0, 0, 0}, {0, -1, 0, 0}, {0, 4, 0, 0}, {0, 0, -1, 0}, {0, 0, 3, 0},
            {0, 0, 0, -1}, {0, 0, 0, 2}};
        for (int there = 0; there < 2; there++) {
            for (int[] b : bad) {
                CHECK.due("BAD of CREW " + b[0], x.leans(b[0], b[1], b[2], b[3]), Check.BAD_LONG);
            }
            x.form(0, 0, 0, 1, 1, 1);
            x.form(0, 1, 0, 1, 1, 1);
        }
    }
}
