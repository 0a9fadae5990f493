/** Promises 7 to 12 at their edges, a sentence of the document by itself in each test. */
public final class TextsEdgesTest {
    private static final Check CHECK = new Check();
    private static final int BAD = FormRoom.BAD, NOT = FormRoom.NOT, FULL = FormRoom.FULL;
    private static final int NO = 0, YES = 1, OPEN = 2;
    /** TESTS of the FORM that asked() lays, by what they are. */
    private static final String[] TESTS = {"b=4", "b=5", "a=1"};

    public static void main(String[] args) {
        sixtyBytes();
        twelveBytes();
        anyByte();
        textsAreApart();
        wipe();
        wipedAnew();
        faultOfEmpty();
        faultOfLetters();
        faultOfSigns();
        faultOfNumbers();
        faultBehindNumbers();
        faultBehindBars();
        faultIsTheFirst();
        faultOfFull();
        faultOfHabits();
        numbersAtTheEnds();
        lettersOfEntries();
        blankIsOpen();
        onlyBoxesAreBlank();
        alternatives();
        questions();
        fifteenTests();
        asksRefused();
        counts();
        countsOfAll();
        shareOfOne();
        shareBesideYes();
        shareBesideNo();
        shareOfNone();
        shareOfKnown();
        shareInLowestTerms();
        shareRefused();
        CHECK.end();
    }

    private static void sixtyBytes() {
        CHECK.sentence("QUESTIONS 0, 1 are texts of up to 60 bytes");
        for (int text = 0; text < 2; text++) {
            FormRoom x = new FormRoom();
            for (int i = 1; i <= 60; i++) {
                CHECK.due("byte " + i, x.type(text, 'k'), i);
            }
            CHECK.due("byte 61", x.type(text, 'k'), FULL);
            CHECK.due("byte 61, of another sort", x.type(text, 0), FULL);
            CHECK.due("a BAD byte 61", x.type(text, 256), BAD);
            CHECK.due("count(2)", x.count(2), 60);
            CHECK.due("wipe", x.wipe(text), 60);
            CHECK.due("the first again", x.type(text, 'k'), 1);
        }
    }

    private static void twelveBytes() {
        CHECK.sentence("HABITS 0 to 2 are texts of up to 12 bytes");
        for (int text = 2; text < 5; text++) {
            FormRoom x = new FormRoom();
            for (int i = 1; i <= 12; i++) {
                CHECK.due("byte " + i, x.type(text, 'n'), i);
            }
            CHECK.due("byte 13", x.type(text, 'n'), FULL);
            CHECK.due("byte 13, a wrong one", x.type(text, '?'), FULL);
            CHECK.due("a BAD byte 13", x.type(text, -1), BAD);
            CHECK.due("no FAULT by it", x.fault(text), -1);
            CHECK.due("count(2)", x.count(2), 12);
            CHECK.due("wipe", x.wipe(text), 12);
            CHECK.due("the first again", x.type(text, 'n'), 1);
        }
    }

    private static void anyByte() {
        CHECK.sentence("A byte (0 to 255) comes behind a text: .. how many. BAD; FULL.");
        for (int text = 0; text < 5; text++) {
            FormRoom x = new FormRoom();
            CHECK.due("-1", x.type(text, -1), BAD);
            CHECK.due("256", x.type(text, 256), BAD);
            CHECK.due("0", x.type(text, 0), 1);
            CHECK.due("255", x.type(text, 255), 2);
            CHECK.due("'k' and 256", x.type(text, 'k' + 256), BAD);
            CHECK.due("count(2)", x.count(2), 2);
        }
        CHECK.due("text -1", new FormRoom().type(-1, 'k'), BAD);
        CHECK.due("text 5", new FormRoom().type(5, 'k'), BAD);
    }

    private static void textsAreApart() {
        CHECK.sentence("QUESTIONS 0, 1, HABITS 2 to 4");
        FormRoom x = new FormRoom();
        for (int text = 0; text < 5; text++) {
            for (int i = 0; i <= text; i++) {
                CHECK.due("text " + text, x.type(text, '.'), i + 1);
            }
        }
        CHECK.due("count(2)", x.count(2), 15);
        CHECK.due("wipe(2)", x.wipe(2), 3);
        CHECK.due("count(2)", x.count(2), 12);
        CHECK.due("wipe(4)", x.wipe(4), 5);
        CHECK.due("wipe(0)", x.wipe(0), 1);
        CHECK.due("wipe(3)", x.wipe(3), 4);
        CHECK.due("wipe(1)", x.wipe(1), 2);
        CHECK.due("count(2)", x.count(2), 0);
    }

    private static void wipe() {
        CHECK.sentence("A text is empty: how many bytes it had. BAD.");
        for (int text = 0; text < 5; text++) {
            FormRoom x = new FormRoom();
            CHECK.due("of an empty one", x.wipe(text), 0);
            x.type(text, '?');
            CHECK.due("of one byte", x.wipe(text), 1);
            CHECK.due("again", x.wipe(text), 0);
            CHECK.due("its FAULT", x.fault(text), text < 2 ? 0 : -1);
        }
        CHECK.due("wipe(-1)", new FormRoom().wipe(-1), BAD);
        CHECK.due("wipe(5)", new FormRoom().wipe(5), BAD);
    }

    private static void wipedAnew() {
        CHECK.sentence("A text is empty: nothing of what it had is left");
        FormRoom x = new FormRoom();
        x.form(1, 0, 0, 7, 0, 0);
        for (String had : new String[] {"k=123", "k", "k=", "k=1&", "k=1|", "x", "k=9|a=7", "a=1&a=2"}) {
            Check.type(x, 0, had);
            Check.type(x, 0, "a=7");
            CHECK.due("the FAULT behind " + had, x.fault(0), -1);
            CHECK.due("asks behind " + had, x.asks(0, 0), YES);
            Check.type(x, 0, "a=8");
            CHECK.due("asks behind " + had, x.asks(0, 0), NO);
        }
    }

    /** The FAULT of a text, typed into both QUESTIONS of a new room. */
    private static void faultDue(String text, int due) {
        for (int question = 0; question < 2; question++) {
            FormRoom x = new FormRoom();
            Check.type(x, question, text);
            CHECK.due("fault of " + text, x.fault(question), due);
        }
    }

    private static void faultOfEmpty() {
        CHECK.sentence("The FAULT is the place of the first byte with which it cannot go on (of an empty text 0).");
        FormRoom x = new FormRoom();
        CHECK.due("fault(0)", x.fault(0), 0);
        CHECK.due("fault(1)", x.fault(1), 0);
        CHECK.due("fault(-1)", x.fault(-1), BAD);
        CHECK.due("fault(5)", x.fault(5), BAD);
        String[] cut = {"k", "k=", "k=1&", "k=1|", "k=1&r", "k=1|r<", "k=12&r<345|"};
        for (String text : cut) {
            faultDue(text, text.length());
        }
    }

    private static void faultOfLetters() {
        CHECK.sentence("a letter (k KIND, r CREW, w WEEK, a, b, c)");
        for (char b = 0; b < 256; b++) {
            boolean goesOn = "krwabc".indexOf(b) >= 0;
            faultDue(b + "=1", goesOn ? -1 : 0);
            faultDue("" + b, goesOn ? 1 : 0);
            faultDue("k=1&" + b, goesOn ? 5 : 4);
            faultDue("k=1|" + b, goesOn ? 5 : 4);
        }
    }

    private static void faultOfSigns() {
        CHECK.sentence("< or = or >");
        for (char b = 0; b < 256; b++) {
            boolean goesOn = "<=>".indexOf(b) >= 0;
            faultDue("c" + b, goesOn ? 2 : 1);
            faultDue("c" + b + "0", goesOn ? -1 : 1);
            faultDue("c=0&c" + b + "0", goesOn ? -1 : 5);
        }
    }

    private static void faultOfNumbers() {
        CHECK.sentence("a number (one to three figures)");
        for (char b = 0; b < 256; b++) {
            boolean figure = b >= '0' && b <= '9';
            faultDue("w>" + b, figure ? -1 : 2);
            boolean goesOn = figure || b == '&' || b == '|';
            faultDue("w>0" + b, goesOn ? figure ? -1 : 4 : 3);
            faultDue("w>00" + b, goesOn ? figure ? -1 : 5 : 4);
        }
        faultDue("w>0009", 5);
        faultDue("w>9999", 5);
        faultDue("w>999", -1);
    }

    private static void faultBehindNumbers() {
        CHECK.sentence("ALTERNATIVES with | between them, each of TESTS with & between them");
        for (char b = 0; b < 256; b++) {
            boolean goesOn = b == '&' || b == '|';
            faultDue("w>000" + b, goesOn ? 6 : 5);
            faultDue("w>000" + b + "a<1", goesOn ? -1 : 5);
            faultDue("w>000&b=12" + b + "a<1", goesOn || b >= '0' && b <= '9' ? goesOn ? -1 : 11 : 10);
        }
    }

    private static void faultBehindBars() {
        CHECK.sentence("ALTERNATIVES with | between them: none of them, and no TEST, is empty");
        faultDue("&", 0);
        faultDue("|", 0);
        faultDue("|k=1", 0);
        faultDue("&k=1", 0);
        faultDue("k=1||k=1", 4);
        faultDue("k=1&&k=1", 4);
        faultDue("k=1|&k=1", 4);
        faultDue("k=1&|k=1", 4);
        faultDue("k|k=1", 1);
        faultDue("k=|k=1", 2);
    }

    private static void faultIsTheFirst() {
        CHECK.sentence("the place of the first byte");
        faultDue("k=1&?=1&?=1", 4);
        faultDue("??", 0);
        faultDue("k=1k=1", 3);
        faultDue("k=1&b=2345|?", 9);
        faultDue("k=?&k=1", 2);
        FormRoom x = new FormRoom();
        Check.type(x, 1, "k=1?");
        for (char b : "&k=1".toCharArray()) {
            x.type(1, b);
            CHECK.due("what comes behind it mends nothing", x.fault(1), 3);
        }
    }

    private static void faultOfFull() {
        CHECK.sentence("texts of up to 60 bytes: their FAULT");
        String tests = "k=1&".repeat(14);
        faultDue(tests + "k=12", -1);
        faultDue(tests + "k=1", -1);
        faultDue(tests + "k=1|", 60);
        faultDue(tests + "k=1?", 59);
        faultDue(tests + "k=??", 58);
        faultDue("a<123&".repeat(9) + "b=1|c=", 60);
        faultDue("a<123&".repeat(9) + "b=1|a", 59);
    }

    private static void faultOfHabits() {
        CHECK.sentence("The FAULT of a HABIT: the first other byte");
        for (int text = 2; text < 5; text++) {
            for (char b = 0; b < 256; b++) {
                boolean fine = "nesw.".indexOf(b) >= 0;
                FormRoom x = new FormRoom();
                x.type(text, b);
                CHECK.due("fault of " + b, x.fault(text), fine ? -1 : 0);
                Check.type(x, text, "nesw.nesw.n" + b);
                CHECK.due("fault of a twelfth " + b, x.fault(text), fine ? -1 : 11);
                Check.type(x, text, "n" + b + "?");
                CHECK.due("fault of a second " + b, x.fault(text), fine ? 2 : 1);
            }
        }
        CHECK.due("an empty one has none", new FormRoom().fault(2), -1);
    }

    /** A room with the FORM of KIND 3, CREW 7, WEEK 99, a BLANK, b 5, c 999; and what a QUESTION is of it. */
    private static int asked(String question, int which) {
        FormRoom x = new FormRoom();
        x.form(3, 7, 99, -1, 5, 999);
        Check.type(x, which, question);
        return x.asks(which, 0);
    }

    private static void asksDue(String question, int due) {
        CHECK.due("asks " + question, asked(question, 0), due);
        CHECK.due("asks " + question, asked(question, 1), due);
    }

    private static void numbersAtTheEnds() {
        CHECK.sentence("< or = or >, a number");
        String[] at = {"k", "r", "w", "b", "c"};
        int[] is = {3, 7, 99, 5, 999};
        for (int i = 0; i < at.length; i++) {
            asksDue(at[i] + "=" + is[i], YES);
            asksDue(at[i] + "<" + is[i], NO);
            asksDue(at[i] + ">" + is[i], NO);
            asksDue(at[i] + "=" + (is[i] - 1), NO);
            asksDue(at[i] + "<" + (is[i] - 1), NO);
            asksDue(at[i] + ">" + (is[i] - 1), YES);
            asksDue(at[i] + "=0", NO);
            asksDue(at[i] + "<0", NO);
            asksDue(at[i] + ">0", YES);
        }
        asksDue("k<4", YES);
        asksDue("w<100", YES);
        asksDue("w=099", YES);
        asksDue("b=005", YES);
        asksDue("b=05", YES);
        asksDue("b=50", NO);
        asksDue("c=0999", NOT);
        FormRoom x = new FormRoom();
        x.form(0, 0, 0, 0, 0, 0);
        for (char letter : "krwabc".toCharArray()) {
            for (String test : new String[] {"=0", "=000", "<1", "<999"}) {
                Check.type(x, 0, letter + test);
                CHECK.due(letter + test + " of 0", x.asks(0, 0), YES);
            }
            for (String test : new String[] {"<0", ">0", "=1", ">999"}) {
                Check.type(x, 0, letter + test);
                CHECK.due(letter + test + " of 0", x.asks(0, 0), NO);
            }
        }
    }

    private static void lettersOfEntries() {
        CHECK.sentence("k KIND, r CREW, w WEEK, a, b, c");
        for (int entry = 0; entry < 6; entry++) {
            int[] e = {1, 1, 1, 1, 1, 1};
            e[entry] = 2;
            FormRoom x = new FormRoom();
            x.form(e[0], e[1], e[2], e[3], e[4], e[5]);
            for (int i = 0; i < 6; i++) {
                Check.type(x, 0, "krwabc".charAt(i) + "=2");
                CHECK.due("letter " + i + " of entry " + entry, x.asks(0, 0), i == entry ? YES : NO);
            }
        }
    }

    private static void blankIsOpen() {
        CHECK.sentence("A TEST of a BLANK is OPEN.");
        for (int box = 0; box < 3; box++) {
            FormRoom x = new FormRoom();
            x.form(0, 0, 0, 0, 0, 0);
            x.fill(0, box, -1);
            for (String test : new String[] {"<0", "<1", "<999", "=0", "=1", "=999", ">0", ">999"}) {
                Check.type(x, 1, "abc".charAt(box) + test);
                CHECK.due("abc".charAt(box) + test, x.asks(1, 0), OPEN);
            }
            x.fill(0, box, 0);
            CHECK.due("filled in", x.asks(1, 0), NO);
        }
    }

    private static void onlyBoxesAreBlank() {
        CHECK.sentence("A TEST of a BLANK is OPEN: another is not");
        FormRoom x = new FormRoom();
        x.form(0, 0, 0, -1, -1, -1);
        for (char letter : "krw".toCharArray()) {
            Check.type(x, 0, letter + "=0");
            CHECK.due(letter + "=0", x.asks(0, 0), YES);
            Check.type(x, 0, letter + ">0");
            CHECK.due(letter + ">0", x.asks(0, 0), NO);
        }
    }

    private static void alternatives() {
        CHECK.sentence("An ALTERNATIVE is no, if some TEST of it is, else OPEN, if one is, else yes");
        for (int one = 0; one < 3; one++) {
            asksDue(TESTS[one], one);
            for (int other = 0; other < 3; other++) {
                int due = one == NO || other == NO ? NO : one == OPEN || other == OPEN ? OPEN : YES;
                asksDue(TESTS[one] + "&" + TESTS[other], due);
                asksDue("w=99&" + TESTS[one] + "&" + TESTS[other], due);
                asksDue(TESTS[one] + "&" + TESTS[other] + "&a<5", due == YES ? OPEN : due);
            }
        }
    }

    private static void questions() {
        CHECK.sentence("a QUESTION is yes, if some ALTERNATIVE is, else OPEN, if one is, else no.");
        for (int one = 0; one < 3; one++) {
            for (int other = 0; other < 3; other++) {
                int due = one == YES || other == YES ? YES : one == OPEN || other == OPEN ? OPEN : NO;
                asksDue(TESTS[one] + "|" + TESTS[other], due);
                asksDue("w=0|" + TESTS[one] + "|" + TESTS[other], due);
                asksDue(TESTS[one] + "|" + TESTS[other] + "|w=0", due);
                // & binds the TESTS of one ALTERNATIVE alone
                asksDue("w=0&k=3|" + TESTS[one] + "&r=7|" + TESTS[other], due);
                asksDue(TESTS[one] + "|" + TESTS[other] + "&w=0", one);
            }
        }
    }

    private static void fifteenTests() {
        CHECK.sentence("texts of up to 60 bytes: all TESTS that they can hold");
        asksDue("k=3&".repeat(14) + "k=3", YES);
        asksDue("k=3&".repeat(14) + "k=2", NO);
        asksDue("k=3&".repeat(14) + "a=2", OPEN);
        asksDue("k=2|".repeat(14) + "k=3", YES);
        asksDue("k=2|".repeat(14) + "k=2", NO);
        asksDue("k=2|".repeat(14) + "a=2", OPEN);
        asksDue("k=2|".repeat(14) + "w=99", YES);
        asksDue("k=2&".repeat(13) + "k=2|k=3", YES);
        asksDue("k=3|" + "k=2&".repeat(13) + "k=2", YES);
    }

    private static void asksRefused() {
        CHECK.sentence("A QUESTION of a FORM: 0 no, 1 yes, 2 OPEN. BAD; NOT: a FAULT.");
        FormRoom x = new FormRoom();
        CHECK.due("no FORM", x.asks(0, 0), BAD);
        x.form(0, 0, 0, 0, 0, 0);
        CHECK.due("an empty text", x.asks(0, 0), NOT);
        CHECK.due("BAD ahead of NOT", x.asks(0, 1), BAD);
        CHECK.due("BAD ahead of NOT", x.asks(0, -1), BAD);
        CHECK.due("a HABIT", x.asks(2, 0), BAD);
        Check.type(x, 0, "k=0|");
        CHECK.due("a text that is cut", x.asks(0, 0), NOT);
        Check.type(x, 0, "k=0?");
        CHECK.due("a text with a wrong byte", x.asks(0, 0), NOT);
        Check.type(x, 1, "k=0");
        CHECK.due("the other's FAULT", x.asks(1, 0), YES);
    }

    private static void counts() {
        CHECK.sentence("Of how many KNOWN FORMS a QUESTION is yes (what = 0), OPEN (1). BAD; NOT.");
        FormRoom x = new FormRoom();
        CHECK.due("NOT", x.counts(1, 0), NOT);
        Check.type(x, 1, "a=1");
        CHECK.due("yes of none", x.counts(1, 0), 0);
        CHECK.due("OPEN of none", x.counts(1, 1), 0);
        x.form(0, 0, 10, 1, 0, 0);
        x.form(0, 0, 11, 2, 0, 0);
        x.form(0, 0, 12, -1, 0, 0);
        int[][] due = {{9, 0, 0}, {10, 1, 0}, {11, 1, 0}, {12, 1, 1}};
        for (int[] d : due) {
            x.asOf(d[0]);
            CHECK.due("yes as of " + d[0], x.counts(1, 0), d[1]);
            CHECK.due("OPEN as of " + d[0], x.counts(1, 1), d[2]);
        }
        CHECK.due("BAD ahead of NOT", x.counts(0, 2), BAD);
        CHECK.due("BAD ahead of NOT", x.counts(0, -1), BAD);
        CHECK.due("BAD", x.counts(2, 0), BAD);
        CHECK.due("BAD", x.counts(-1, 0), BAD);
    }

    private static void countsOfAll() {
        CHECK.sentence("Of how many KNOWN FORMS: of forty");
        FormRoom x = new FormRoom();
        for (int i = 0; i < 40; i++) {
            x.form(0, 0, 99, i < 20 ? 1 : -1, 0, 0);
        }
        Check.type(x, 0, "b=0");
        CHECK.due("yes", x.counts(0, 0), 40);
        CHECK.due("OPEN", x.counts(0, 1), 0);
        Check.type(x, 1, "a>0");
        CHECK.due("yes", x.counts(1, 0), 20);
        CHECK.due("OPEN", x.counts(1, 1), 20);
    }

    /** A room where QUESTION 0 asks for a, QUESTION 1 for b, with FORMS that are no, yes or OPEN of both. */
    private static FormRoom sharing(int... sorts) {
        FormRoom x = new FormRoom();
        Check.type(x, 0, "a=1");
        Check.type(x, 1, "b=1");
        int[] boxes = {0, 1, -1};
        for (int i = 0; i + 1 < sorts.length; i += 2) {
            x.form(0, 0, 50, boxes[sorts[i]], boxes[sorts[i + 1]], 0);
        }
        return x;
    }

    private static void shareDue(FormRoom x, String what, int[] due) {
        CHECK.parts("the least " + what, x.share(0, 0), x.share(0, 1), due[0], due[1]);
        CHECK.parts("the greatest " + what, x.share(1, 0), x.share(1, 1), due[2], due[3]);
    }

    private static void shareOfOne() {
        CHECK.sentence("the least and the greatest it can be, each OPEN of both being yes or no");
        int[][] due = {
            {0, 1, 0, 1}, {0, 1, 0, 1}, {0, 1, 0, 1},
            {0, 1, 0, 1}, {1, 1, 1, 1}, {0, 1, 1, 1},
            {0, 1, 0, 1}, {0, 1, 1, 1}, {0, 1, 1, 1}};
        for (int i = 0; i < 9; i++) {
            shareDue(sharing(i / 3, i % 3), "of " + i / 3 + " and " + i % 3, due[i]);
        }
    }

    private static void shareBesideYes() {
        CHECK.sentence("each OPEN of both being yes or no: beside a FORM of which both are yes");
        int[][] due = {
            {1, 1, 1, 1}, {1, 1, 1, 1}, {1, 1, 1, 1},
            {1, 2, 1, 2}, {1, 1, 1, 1}, {1, 2, 1, 1},
            {1, 2, 1, 1}, {1, 1, 1, 1}, {1, 2, 1, 1}};
        for (int i = 0; i < 9; i++) {
            shareDue(sharing(YES, YES, i / 3, i % 3), "of " + i / 3 + " and " + i % 3, due[i]);
        }
    }

    private static void shareBesideNo() {
        CHECK.sentence("each OPEN of both being yes or no: beside a FORM of which the second is no");
        int[][] due = {
            {0, 1, 0, 1}, {0, 1, 0, 1}, {0, 1, 0, 1},
            {0, 1, 0, 1}, {1, 2, 1, 2}, {0, 1, 1, 2},
            {0, 1, 0, 1}, {0, 1, 1, 2}, {0, 1, 1, 2}};
        for (int i = 0; i < 9; i++) {
            shareDue(sharing(YES, NO, i / 3, i % 3), "of " + i / 3 + " and " + i % 3, due[i]);
        }
    }

    private static void shareOfNone() {
        CHECK.sentence("where there is none of the first so, it is 0 by 1");
        int[] none = {0, 1, 0, 1};
        shareDue(sharing(), "of no FORMS", none);
        shareDue(sharing(NO, YES, NO, OPEN), "of none of the first", none);
        FormRoom x = sharing(YES, YES);
        x.asOf(49);
        shareDue(x, "of none that is KNOWN", none);
    }

    private static void shareOfKnown() {
        CHECK.sentence("of KNOWN FORMS of which QUESTION 0 is yes");
        FormRoom x = sharing(YES, NO);
        x.form(0, 0, 51, 1, 1, 0);
        shareDue(x, "of both", new int[] {1, 2, 1, 2});
        x.asOf(51);
        shareDue(x, "as of 51", new int[] {1, 2, 1, 2});
        x.asOf(50);
        shareDue(x, "as of 50", new int[] {0, 1, 0, 1});
    }

    private static void shareInLowestTerms() {
        CHECK.sentence("FRACTIONS are told in lowest terms, above and below (0 by 1).");
        int[][] due = {{0, 0, 1}, {1, 1, 40}, {5, 1, 8}, {20, 1, 2}, {39, 39, 40}, {40, 1, 1}};
        for (int[] d : due) {
            FormRoom x = sharing();
            for (int i = 0; i < 40; i++) {
                x.form(0, 0, 0, 1, i < d[0] ? 1 : 0, 0);
            }
            shareDue(x, d[0] + " of 40", new int[] {d[1], d[2], d[1], d[2]});
        }
    }

    private static void shareRefused() {
        CHECK.sentence("SHARE: the least (end = 0), the greatest (1): above, below. BAD; NOT. (As the least long.)");
        FormRoom x = sharing(YES, YES);
        for (int v : new int[] {-1, 2}) {
            CHECK.due("end " + v, x.share(v, 0), Check.BAD_LONG);
            CHECK.due("what " + v, x.share(0, v), Check.BAD_LONG);
        }
        for (int question = 0; question < 2; question++) {
            FormRoom y = sharing(YES, YES);
            y.type(question, '?');
            CHECK.due("a FAULT of " + question, y.share(1, 1), Check.NOT_LONG);
            CHECK.due("BAD ahead of NOT", y.share(2, 1), Check.BAD_LONG);
            CHECK.due("BAD ahead of NOT", y.share(1, 2), Check.BAD_LONG);
            y.wipe(question);
            CHECK.due("an empty text " + question, y.share(0, 0), Check.NOT_LONG);
        }
        FormRoom empty = sharing();
        empty.wipe(1);
        CHECK.due("NOT, with no FORMS too", empty.share(0, 0), Check.NOT_LONG);
    }
}
