/** Promises 1 to 6 at their edges, a sentence of the document by itself in each test. */
public final class FormsEdgesTest {
    private static final Check CHECK = new Check();
    private static final int BAD = FormRoom.BAD, FULL = FormRoom.FULL;
    private static final int[] LEAST = {0, 0, 0, -1, -1, -1};
    private static final int[] MOST = {3, 7, 99, 999, 999, 999};

    public static void main(String[] args) {
        newRoom();
        newRoomAnswers();
        fortyAtMost();
        itsNumber();
        entries();
        boxesAreBlank();
        laterWeeksAreNotKnown();
        ninetyNineAtFirst();
        weeksComeBack();
        whole();
        asLongAsEachMayBe();
        readUntilFull();
        readIsOfAnyFormat();
        readLeavesTheSheet();
        readOfLost();
        about();
        fill();
        fillOfUnknown();
        asOfTellsWhatItWas();
        CHECK.end();
    }

    private static int lay(FormRoom x, int[] e) {
        return x.form(e[0], e[1], e[2], e[3], e[4], e[5]);
    }

    private static void newRoom() {
        CHECK.sentence("No FORMS, empty texts; all SHEETS are LOST.");
        FormRoom x = new FormRoom();
        CHECK.due("count(0)", x.count(0), 0);
        CHECK.due("count(2)", x.count(2), 0);
        CHECK.due("count(8)", x.count(8), 0);
        for (int s = 0; s < 4; s++) {
            CHECK.due("lose(" + s + ")", x.lose(s), Check.NULL);
        }
    }

    private static void newRoomAnswers() {
        CHECK.sentence("No FORMS, ..: what is asked of none");
        FormRoom x = new FormRoom();
        CHECK.due("about(0, 0)", x.about(0, 0), BAD);
        CHECK.due("fill(0, 0, 0)", x.fill(0, 0, 0), BAD);
        CHECK.due("asks(0, 0)", x.asks(0, 0), BAD);
        CHECK.due("counts(0, 0)", x.counts(0, 0), -3);
        CHECK.due("share(0, 0)", x.share(0, 0), Check.NOT_LONG);
        CHECK.due("worth(0, 1)", x.worth(0, 1), 0);
        CHECK.due("depth()", x.depth(), 0);
        CHECK.due("losses(1, 999, 0)", x.losses(1, 999, 0), Check.NOT_LONG);
        CHECK.due("size(1)", x.size(1), -1);
        CHECK.due("mean(0, 0, 0, 99, 0)", x.mean(0, 0, 0, 99, 0), Check.NOT_LONG);
        CHECK.due("did(0, 0, 50, 0, 0)", x.did(0, 0, 50, 0, 0), Check.NOT_LONG);
        CHECK.due("leans(0, 0, 0, 0)", x.leans(0, 0, 0, 0), Check.NOT_LONG);
    }

    private static void fortyAtMost() {
        CHECK.sentence("FORMS 0 .. 39 (40 at most)");
        FormRoom x = new FormRoom();
        for (int i = 0; i < 40; i++) {
            CHECK.due("form " + i, x.form(i % 4, i % 8, i, i, 999 - i, -1), i);
        }
        CHECK.due("one more", x.form(0, 0, 0, 0, 0, 0), FULL);
        CHECK.due("still one more", lay(x, MOST), FULL);
        CHECK.due("count(0)", x.count(0), 40);
        CHECK.due("the last one's a", x.about(39, 3), 39);
        CHECK.due("the last one's b", x.about(39, 4), 960);
        CHECK.due("the first one's b", x.about(0, 4), 999);
        CHECK.due("about(40, 0)", x.about(40, 0), BAD);
        CHECK.due("fill(39, 2, 5)", x.fill(39, 2, 5), -1);
        CHECK.due("fill(40, 2, 5)", x.fill(40, 2, 5), BAD);
    }

    private static void itsNumber() {
        CHECK.sentence("A FORM more: its number.");
        FormRoom x = new FormRoom();
        CHECK.due("the first", lay(x, LEAST), 0);
        CHECK.due("a BAD one", x.form(-1, 0, 0, 0, 0, 0), BAD);
        CHECK.due("the second", lay(x, LEAST), 1);
        CHECK.due("about(2, 0)", x.about(2, 0), BAD);
    }

    private static void entries() {
        CHECK.sentence("a KIND (0 .. 3 MENDED), a CREW (0 to 7), a WEEK (0 to 99), .. BOXES a, b, c (0 to 999; BLANK");
        for (int i = 0; i < 6; i++) {
            FormRoom x = new FormRoom();
            for (int v : new int[] {LEAST[i] - 1, MOST[i] + 1, -100, 1000, Integer.MIN_VALUE, Integer.MAX_VALUE}) {
                int[] e = LEAST.clone();
                e[i] = v;
                CHECK.due("entry " + i + " is " + v, lay(x, e), BAD);
            }
            int[] e = MOST.clone();
            e[i] = LEAST[i];
            CHECK.due("the least of entry " + i, lay(x, e), 0);
            CHECK.due("the greatest of entry " + i, lay(x, MOST), 1);
            for (int what = 0; what < 6; what++) {
                CHECK.due("about(0, " + what + ")", x.about(0, what), what == i ? LEAST[i] : MOST[what]);
                CHECK.due("about(1, " + what + ")", x.about(1, what), MOST[what]);
            }
        }
    }

    private static void boxesAreBlank() {
        CHECK.sentence("BLANK, told as -1");
        FormRoom x = new FormRoom();
        for (int box = 0; box < 3; box++) {
            int[] e = {0, 0, 0, 0, 0, 0};
            e[3 + box] = -1;
            lay(x, e);
            CHECK.due("BLANK in box " + box, x.about(box, 3 + box), -1);
            CHECK.due("BLANK BOXES", x.count(6), box + 1);
        }
    }

    private static void laterWeeksAreNotKnown() {
        CHECK.sentence("AS OF a WEEK .. those of later WEEKS are not KNOWN.");
        int[] weeks = {0, 1, 50, 98, 99};
        FormRoom x = new FormRoom();
        for (int week : weeks) {
            x.form(0, 0, week, -1, 0, 0);
        }
        for (int asOf : new int[] {0, 1, 2, 49, 50, 51, 97, 98, 99}) {
            x.asOf(asOf);
            int known = 0;
            for (int f = 0; f < weeks.length; f++) {
                int due = weeks[f] > asOf ? 0 : 1;
                known += due;
                CHECK.due("about(" + f + ", 6) as of " + asOf, x.about(f, 6), due);
            }
            CHECK.due("count(1) as of " + asOf, x.count(1), known);
            CHECK.due("count(6) as of " + asOf, x.count(6), known);
            CHECK.due("count(0) as of " + asOf, x.count(0), weeks.length);
        }
    }

    private static void ninetyNineAtFirst() {
        CHECK.sentence("AS OF a WEEK (99 at first)");
        FormRoom x = new FormRoom();
        x.form(0, 0, 99, 0, 0, 0);
        CHECK.due("about(0, 6)", x.about(0, 6), 1);
        CHECK.due("count(3)", x.count(3), 99);
        CHECK.due("asOf(0)", x.asOf(0), 99);
    }

    private static void weeksComeBack() {
        CHECK.sentence("AS OF a WEEK: what is not KNOWN is kept");
        FormRoom x = new FormRoom();
        x.asOf(0);
        CHECK.due("a FORM of a later WEEK", x.form(1, 1, 1, 7, 7, 7), 0);
        CHECK.due("it is not KNOWN", x.about(0, 6), 0);
        CHECK.due("it is told", x.about(0, 5), 7);
        x.asOf(1);
        CHECK.due("it is KNOWN", x.about(0, 6), 1);
    }

    private static void whole() {
        CHECK.sentence("its items, six for each (as form()), as many as are whole");
        for (int n = 0; n <= 60; n++) {
            FormRoom x = new FormRoom();
            x.sheet(0, 0, n);
            CHECK.due("read of " + n + " items", x.read(0), n / 6);
            CHECK.due("count(0)", x.count(0), n / 6);
        }
        FormRoom x = new FormRoom();
        Check.lay(x, 3, 2, 3, 7, 99, 999, -1, 0, 0, 1, 2, 3, 4, 5);
        CHECK.due("read(3)", x.read(3), 2);
        int[] due = {3, 7, 99, 999, -1, 0, 0, 1, 2, 3, 4, 5};
        for (int i = 0; i < 12; i++) {
            CHECK.due("item " + i, x.about(i / 6, i % 6), due[i]);
        }
    }

    private static void asLongAsEachMayBe() {
        CHECK.sentence("as long as each may be: how many.");
        for (int i = 0; i < 18; i++) {
            for (int v : new int[] {LEAST[i % 6] - 1, MOST[i % 6] + 1}) {
                FormRoom x = new FormRoom();
                x.sheet(1, 2, 18);
                x.lay(1, 2, i, v);
                CHECK.due("item " + i + " is " + v, x.read(1), i / 6);
                CHECK.due("count(0)", x.count(0), i / 6);
            }
        }
    }

    private static void readUntilFull() {
        CHECK.sentence("as long as each may be: in a room that becomes full");
        for (int there = 37; there <= 40; there++) {
            FormRoom x = new FormRoom();
            for (int i = 0; i < there; i++) {
                x.form(0, 0, 0, 0, 0, 0);
            }
            x.sheet(0, 1, 18);
            x.lay(0, 1, 15, 15);
            CHECK.due("three beside " + there, x.read(0), Math.min(3, 40 - there));
            CHECK.due("count(0)", x.count(0), 40);
            CHECK.due("count(8)", x.count(8), 0);
        }
    }

    private static void readIsOfAnyFormat() {
        CHECK.sentence("FORMS of a SHEET: bytes and shorts as they are told by get()");
        FormRoom x = new FormRoom();
        Check.lay(x, 0, 0, 1, 2, 3, 127, 255, 0);
        CHECK.due("a byte 255 is BLANK", x.read(0), 1);
        CHECK.due("b", x.about(0, 4), -1);
        x.lay(0, 0, 3, 128);
        CHECK.due("a byte 128 may not be", x.read(0), 0);
        Check.lay(x, 1, 1, 1, 2, 3, 999, 65535, 0);
        CHECK.due("a short 65535 is BLANK", x.read(1), 1);
        CHECK.due("a", x.about(1, 3), 999);
        CHECK.due("b", x.about(1, 4), -1);
        Check.lay(x, 2, 2, 1, 2, 3, 999, 65535, 0);
        CHECK.due("an int 65535 may not be", x.read(2), 0);
    }

    private static void readLeavesTheSheet() {
        CHECK.sentence("FORMS of a SHEET: the SHEET itself is as it was");
        FormRoom x = new FormRoom();
        Check.lay(x, 0, 1, 1, 2, 3, 4, 5, 6, 7);
        x.read(0);
        CHECK.due("read again", x.read(0), 1);
        CHECK.due("count(0)", x.count(0), 2);
        for (int i = 0; i < 7; i++) {
            CHECK.due("item " + i, x.get(0, 1, i), i + 1);
        }
        CHECK.due("lose(0)", x.lose(0), 7);
    }

    private static void readOfLost() {
        CHECK.sentence("read: BAD; NULL.");
        FormRoom x = new FormRoom();
        x.sheet(2, 2, 6);
        x.lose(2);
        CHECK.due("of a SHEET that had items", x.read(2), Check.NULL);
        CHECK.due("count(0)", x.count(0), 0);
        CHECK.due("count(8)", x.count(8), 1);
        x.sheet(2, 2, 0);
        CHECK.due("of a SHEET without items", x.read(2), 0);
    }

    private static void about() {
        CHECK.sentence("Of a FORM: 0 KIND, 1 CREW, 2 WEEK, 3 to 5 BOXES, 6 whether it is KNOWN. BAD.");
        FormRoom x = new FormRoom();
        x.form(2, 3, 4, 5, 6, 7);
        x.asOf(3);
        for (int what = 0; what < 6; what++) {
            CHECK.due("about(0, " + what + ")", x.about(0, what), what + 2);
        }
        CHECK.due("about(0, 6)", x.about(0, 6), 0);
        CHECK.due("about(0, 7)", x.about(0, 7), BAD);
        CHECK.due("about(0, -1)", x.about(0, -1), BAD);
        CHECK.due("about(1, 0)", x.about(1, 0), BAD);
        CHECK.due("about(1, 6)", x.about(1, 6), BAD);
        CHECK.due("about(-1, 0)", x.about(-1, 0), BAD);
    }

    private static void fill() {
        CHECK.sentence("A BOX (0 a, 1 b, 2 c) of a FORM becomes v (-1: BLANK): what it was. BAD.");
        FormRoom x = new FormRoom();
        x.form(1, 1, 1, 10, 20, 30);
        x.form(1, 1, 1, 11, 21, 31);
        for (int box = 0; box < 3; box++) {
            int was = 10 * (box + 1);
            for (int v : new int[] {-1, -1, 0, 999, 0, -1}) {
                CHECK.due("fill(0, " + box + ", " + v + ")", x.fill(0, box, v), was);
                CHECK.due("fill(0, " + box + ", -2)", x.fill(0, box, -2), BAD);
                CHECK.due("fill(0, " + box + ", 1000)", x.fill(0, box, 1000), BAD);
                CHECK.due("about(0, " + (3 + box) + ")", x.about(0, 3 + box), v);
                was = v;
            }
            CHECK.due("another FORM's", x.about(1, 3 + box), 10 * box + 11);
            CHECK.due("BLANK BOXES", x.count(6), box + 1);
        }
        for (int what = 0; what < 3; what++) {
            CHECK.due("about(0, " + what + ")", x.about(0, what), 1);
        }
    }

    private static void fillOfUnknown() {
        CHECK.sentence("A BOX of a FORM becomes v: of one that is not KNOWN too");
        FormRoom x = new FormRoom();
        x.form(0, 0, 50, 1, 1, 1);
        x.asOf(49);
        CHECK.due("fill(0, 0, -1)", x.fill(0, 0, -1), 1);
        CHECK.due("BLANK BOXES of KNOWN FORMS", x.count(6), 0);
        x.asOf(50);
        CHECK.due("BLANK BOXES of KNOWN FORMS", x.count(6), 1);
    }

    private static void asOfTellsWhatItWas() {
        CHECK.sentence("AS OF a WEEK: what it was. BAD.");
        FormRoom x = new FormRoom();
        CHECK.due("asOf(100)", x.asOf(100), BAD);
        CHECK.due("asOf(-1)", x.asOf(-1), BAD);
        CHECK.due("asOf(99)", x.asOf(99), 99);
        CHECK.due("asOf(0)", x.asOf(0), 99);
        CHECK.due("asOf(0)", x.asOf(0), 0);
        CHECK.due("asOf(98)", x.asOf(98), 0);
        CHECK.due("count(3)", x.count(3), 98);
    }
}
