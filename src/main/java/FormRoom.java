import java.util.Arrays;

/**
 * Forms that were filled in for two years, and what can be told from them as of a week: questions,
 * depths, a sea searched by ladders, losses, changes, crews, mending, sinks and the order of work.
 *
 * <p>Every row is made with the object and used again, so that no call makes anything.
 */
public final class FormRoom {
    public static final int NONE = -1, BAD = -2, NOT = -3, FULL = -4;

    private static final int FINE = 0;
    private static final int LEAST_INT = 1 << 31;
    private static final long LEAST_LONG = 1L << 63;
    private static final int NULL = 1, INDEX = 2, CAST = 3, STORE = 4, SIZE = 5;

    private static final int SIGHTED = 0, DROPPED = 1, SAILED = 2, MENDED = 3;
    private static final int BLANK = -1;
    private static final int LAST_CREW = 7, LAST_WEEK = 99, MOST_IN_BOX = 999, LAST_BOX = 2;

    private static final int QUESTIONS = 2, HABITS = 3, TEXTS = QUESTIONS + HABITS;
    private static final int SHEETS = 4, MOST_ITEMS = 60, LAST_FORMAT = 2;

    private static final int LADDER_HOURS = 6, BEST_LADDER_HOURS = 5, LAST_HOUR = 99;
    private static final int MOST_FLYERS = 8, MOST_WEEKS = 20;
    private static final int MOST_PAIRS = 6, MOST_SPAN = 200;
    private static final int LATEST_FINDING = 8;

    private final Forms forms = new Forms();
    private final Question[] questions = new Question[QUESTIONS];
    private final Sea sea = new Sea();
    private final Laws laws = new Laws();
    private final Mending mending = new Mending();
    private final Sheet[] sheets = new Sheet[SHEETS];
    private final Tally tally = new Tally();
    private final Tally others = new Tally();
    private final Fraction fraction = new Fraction();
    private final int[] mostBehind = new int[1 << MOST_PAIRS];
    private int latestFinding = 0;

    public FormRoom() {
        for (int q = 0; q < QUESTIONS; q++) {
            questions[q] = new Question();
        }
        for (int s = 0; s < SHEETS; s++) {
            sheets[s] = new Sheet();
        }
    }

    // ---- forms, questions

    public int form(int kind, int crew, int week, int a, int b, int c) {
        return forms.add(kind, crew, week, a, b, c);
    }

    public int read(int s) {
        Sheet sheet = sheetAt(s);
        if (sheet == null) {
            return BAD;
        }
        if (sheet.lost) {
            return found(NULL);
        }
        int added = 0;
        for (int i = 0; i + Forms.ENTRIES <= sheet.length; i += Forms.ENTRIES) {
            if (addFrom(sheet, i) < 0) {
                break;
            }
            added++;
        }
        return added;
    }

    public int about(int form, int what) {
        if (!forms.has(form) || !within(what, 0, Forms.ENTRIES)) {
            return BAD;
        }
        if (what == Forms.ENTRIES) {
            return forms.isKnown(form) ? 1 : 0;
        }
        return forms.entry(form, what);
    }

    public int fill(int form, int box, int v) {
        if (!forms.has(form) || !within(box, 0, LAST_BOX) || !within(v, BLANK, MOST_IN_BOX)) {
            return BAD;
        }
        return forms.refill(form, box, v);
    }

    public int asOf(int week) {
        if (!within(week, 0, LAST_WEEK)) {
            return BAD;
        }
        int was = forms.asOf;
        forms.asOf = week;
        return was;
    }

    public int type(int text, int b) {
        if (!within(b, 0, 255)) {
            return BAD;
        }
        Question question = questionAt(text);
        if (question != null) {
            return question.accept(b);
        }
        Habit habit = textHabit(text);
        return habit == null ? BAD : habit.accept(b);
    }

    public int wipe(int text) {
        Question question = questionAt(text);
        if (question != null) {
            return question.clear();
        }
        Habit habit = textHabit(text);
        return habit == null ? BAD : habit.clear();
    }

    public int fault(int text) {
        Question question = questionAt(text);
        if (question != null) {
            return question.faultPlace();
        }
        Habit habit = textHabit(text);
        return habit == null ? BAD : habit.fault;
    }

    public int asks(int question, int form) {
        Question asked = questionAt(question);
        if (asked == null || !forms.has(form)) {
            return BAD;
        }
        return asked.faultPlace() == NONE ? asked.answer(forms, form) : NOT;
    }

    public int counts(int question, int what) {
        Question asked = questionAt(question);
        if (asked == null || !within(what, 0, 1)) {
            return BAD;
        }
        if (asked.faultPlace() != NONE) {
            return NOT;
        }
        int due = what == 0 ? Question.YES : Question.OPEN;
        int such = 0;
        for (int f = 0; f < forms.total; f++) {
            if (forms.isKnown(f) && asked.answer(forms, f) == due) {
                such++;
            }
        }
        return such;
    }

    public long share(int end, int what) {
        if (!within(end, 0, 1) || !within(what, 0, 1)) {
            return asLong(BAD);
        }
        Question first = questionAt(0);
        Question second = questionAt(1);
        if (first == null || second == null || first.faultPlace() != NONE || second.faultPlace() != NONE) {
            return asLong(NOT);
        }
        tally.clear();
        for (int f = 0; f < forms.total; f++) {
            if (forms.isKnown(f)) {
                addToShare(first.answer(forms, f), second.answer(forms, f), end);
            }
        }
        fraction.become(tally.above, tally.below);
        return fraction.part(what);
    }

    // ---- depths

    public int law(int which, int v) {
        return laws.mayBe(which, v) ? laws.change(which, v) : BAD;
    }

    public int sinks(int x, int s) {
        if (!within(x, 0, 999) || !within(s, 0, 999)) {
            return BAD;
        }
        return laws.sinkShare(x, s);
    }

    public int worth(int x, int end) {
        if (!within(x, 0, 999) || !within(end, 0, 1)) {
            return BAD;
        }
        return worthOf(x, end);
    }

    public int depth() {
        int best = 0;
        int most = -1;
        for (int x = 0; x <= 300; x += 25) {
            int least = worthOf(x, 0);
            if (least > most) {
                most = least;
                best = x;
            }
        }
        return best;
    }

    // ---- searching

    public int sea(int what, int v) {
        if (what == 0 && within(v, 1, Sea.ALL_CELLS)) {
            int was = sea.start;
            sea.start = v;
            return was;
        }
        if (what == 1 && within(v, 0, 1)) {
            int was = sea.wide;
            sea.wide = v;
            return was;
        }
        return BAD;
    }

    public int habit(int habit, int lot) {
        Habit changed = sea.habitAt(habit);
        if (changed == null || !within(lot, 0, 9)) {
            return BAD;
        }
        int was = changed.lot;
        changed.lot = lot;
        return was;
    }

    public int boat(int habit, int cell, int hour) {
        Habit gone = sea.habitAt(habit);
        if (gone == null || !within(cell, 0, Sea.CELLS - 1) || !within(hour, 0, LAST_HOUR)) {
            return BAD;
        }
        int at = cell;
        for (int t = 0; t < hour; t++) {
            at = gone.next(at, t);
        }
        return at;
    }

    public long odds(int s, int h, int what) {
        if (!within(what, 0, 1)) {
            return asLong(BAD);
        }
        int refusal = layLadder(s, h);
        if (refusal != FINE) {
            return asLong(refusal);
        }
        sea.findAlong(h);
        fraction.become(sea.lotsFound(h - 1), sea.allLots());
        return fraction.part(what);
    }

    public int missed(int s, int h, int habit) {
        if (!within(habit, 0, HABITS - 1)) {
            return BAD;
        }
        int refusal = layLadder(s, h);
        if (refusal != FINE) {
            return refusal;
        }
        sea.findAlong(h);
        return sea.missedBy(h - 1, habit);
    }

    public int ladder(int base, int h, int i) {
        if (!isLadder(base, h) || !within(i, 0, h - 1)) {
            return BAD;
        }
        sea.seekBest(base, h);
        return sea.bestCell(i);
    }

    // ---- sailing, changes, crews

    public long losses(int from, int to, int what) {
        if (!within(from, 1, 999) || !within(to, from, 999) || !within(what, 0, 1)) {
            return asLong(BAD);
        }
        forms.tallyLosses(tally, from, to);
        return tellTally(what);
    }

    public int size(int m) {
        if (!within(m, 1, 9)) {
            return BAD;
        }
        int best = NONE;
        long lost = 0;
        long sailed = 0;
        for (int span = 0; span <= 9; span++) {
            forms.tallyLosses(tally, Math.max(1, 10 * span), 10 * span + 9);
            // both sides multiplied out, so that no share is rounded
            if (tally.forms >= m && (best == NONE || tally.above * sailed <= lost * tally.below)) {
                best = span;
                lost = tally.above;
                sailed = tally.below;
            }
        }
        return best;
    }

    public long mean(int kind, int box, int from, int to, int what) {
        if (!isBox(kind, box) || !within(from, 0, LAST_WEEK) || !within(to, from, LAST_WEEK) || !within(what, 0, 1)) {
            return asLong(BAD);
        }
        forms.tallyWeeks(tally, kind, box, from, to);
        return tellTally(what);
    }

    public long did(int kind, int box, int x, int y, int what) {
        if (!isBox(kind, box) || !within(x, 0, LAST_WEEK) || !within(y, 0, LAST_WEEK) || !within(what, 0, 1)) {
            return asLong(BAD);
        }
        if (within(y, x - 4, x + 3)) {
            return asLong(NOT);
        }
        forms.tallyWeeks(tally, kind, box, x, x + 3);
        forms.tallyWeeks(others, kind, box, x - 4, x - 1);
        return tellDifference(what);
    }

    public long leans(int crew, int kind, int box, int what) {
        if (!within(crew, 0, LAST_CREW) || !isBox(kind, box) || !within(what, 0, 1)) {
            return asLong(BAD);
        }
        forms.tallyCrews(tally, others, crew, kind, box);
        return tellDifference(what);
    }

    // ---- hours, sinks, order

    public int hours(int n, int weeks) {
        if (!within(n, 1, MOST_FLYERS) || !within(weeks, 1, MOST_WEEKS)) {
            return BAD;
        }
        mending.reckon(n, laws.value(Laws.SHEDS), weeks);
        return 10 * mending.mostFlights(weeks, n, 0);
    }

    public int plan(int n, int weeks, int i, int what) {
        if (!within(n, 1, MOST_FLYERS) || !within(weeks, 1, MOST_WEEKS)
                || !within(i, 0, weeks - 1) || !within(what, 0, 2)) {
            return BAD;
        }
        mending.reckon(n, laws.value(Laws.SHEDS), weeks);
        mending.planUpTo(i, weeks);
        if (what == 2) {
            return mending.mended;
        }
        return what == 0 ? mending.flew : mending.flewFresh;
    }

    public int waits(int s, int by) {
        Sheet sheet = sheetAt(s);
        if (sheet == null || !within(by, 0, 1)) {
            return BAD;
        }
        if (sheet.lost) {
            return found(NULL);
        }
        if (!areMinutes(sheet)) {
            return NOT;
        }
        return by == 0 ? waitsAtEither(sheet) : waitsInARow(sheet);
    }

    public int order(int s, int t, int what) {
        Sheet sheet = sheetAt(s);
        if (sheet == null || !within(t, 1, MOST_SPAN) || !within(what, 0, 1)) {
            return BAD;
        }
        if (sheet.lost) {
            return found(NULL);
        }
        if (!arePairs(sheet)) {
            return NOT;
        }
        int pairs = sheet.length / 2;
        if (pairs > MOST_PAIRS) {
            return FULL;
        }
        reckonSavings(sheet, pairs, t);
        return what == 0 ? mostBehind[0] : firstOfBest(sheet, pairs, t);
    }

    // ---- sheets

    public int sheet(int s, int format, int n) {
        Sheet sheet = sheetAt(s);
        if (sheet == null || !within(format, 0, LAST_FORMAT) || n > MOST_ITEMS) {
            return BAD;
        }
        if (n < 0) {
            return found(SIZE);
        }
        sheet.renew(format, n);
        return n;
    }

    public int lose(int s) {
        Sheet sheet = sheetAt(s);
        if (sheet == null) {
            return BAD;
        }
        if (sheet.lost) {
            return found(NULL);
        }
        sheet.lost = true;
        return sheet.length;
    }

    public int lay(int s, int format, int i, int v) {
        Sheet sheet = sheetAt(s);
        int refusal = itemRefusal(sheet, format, i);
        if (sheet == null || refusal != FINE) {
            return refusal;
        }
        sheet.put(i, v);
        return 1;
    }

    public int get(int s, int format, int i) {
        Sheet sheet = sheetAt(s);
        int refusal = itemRefusal(sheet, format, i);
        if (sheet == null || refusal != FINE) {
            return LEAST_INT;
        }
        return sheet.item(i);
    }

    public int copy(int s, int i, int t, int j, int n) {
        Sheet from = sheetAt(s);
        Sheet to = sheetAt(t);
        if (from == null || to == null) {
            return BAD;
        }
        if (from.lost || to.lost) {
            return found(NULL);
        }
        if (from.format != to.format) {
            return found(STORE);
        }
        if (!from.hasItems(i, n) || !to.hasItems(j, n)) {
            return found(INDEX);
        }
        System.arraycopy(from.items, i, to.items, j, n);
        return 1;
    }

    public int write(int base, int h, int s) {
        Sheet sheet = sheetAt(s);
        if (!isLadder(base, h) || sheet == null) {
            return BAD;
        }
        if (sheet.lost) {
            return found(NULL);
        }
        sea.seekBest(base, h);
        int cells = Math.min(h, sheet.length);
        for (int i = 0; i < cells; i++) {
            sheet.put(i, sea.bestCell(i));
        }
        return cells;
    }

    public int count(int what) {
        switch (what) {
            case 0:
                return forms.total;
            case 1:
                return forms.knownForms();
            case 2:
                return bytesOfTexts();
            case 3:
                return forms.asOf;
            case 4:
                return sea.start;
            case 5:
                return sea.wide;
            case 6:
                return forms.blankBoxes();
            case LATEST_FINDING:
                return latestFinding;
            default:
                return BAD;
        }
    }

    public long digest() {
        long h = 17;
        for (int what = 0; what <= 6; what++) {
            h = 31 * h + count(what);
        }
        for (int f = 0; f < forms.total; f++) {
            for (int what = 0; what <= Forms.ENTRIES; what++) {
                h = 31 * h + about(f, what);
            }
        }
        for (int text = 0; text < TEXTS; text++) {
            h = 31 * h + fault(text);
        }
        for (int i = 0; i < 2 * QUESTIONS; i++) {
            h = 31 * h + counts(i / 2, i % 2);
        }
        for (int i = 0; i < 4; i++) {
            h = 31 * h + share(i / 2, i % 2);
        }
        for (int which = 0; which < Laws.LAWS; which++) {
            h = 31 * h + laws.value(which);
        }
        h = 31 * h + depth();
        return 31 * h + size(1);
    }

    // ---- what several calls share

    private static boolean within(int v, int least, int most) {
        return v >= least && v <= most;
    }

    private static boolean isBox(int kind, int box) {
        return within(kind, SIGHTED, MENDED) && within(box, 0, LAST_BOX);
    }

    private static boolean isLadder(int base, int h) {
        return within(base, 0, Sea.CELLS - 1) && within(h, 1, BEST_LADDER_HOURS);
    }

    /** A refusal where the answer is a long: small numbers are answers there. */
    private static long asLong(int refusal) {
        return LEAST_LONG - refusal;
    }

    private int found(int finding) {
        latestFinding = finding;
        return -10 - finding;
    }

    private Sheet sheetAt(int s) {
        return within(s, 0, SHEETS - 1) ? sheets[s] : null;
    }

    private Question questionAt(int text) {
        return within(text, 0, QUESTIONS - 1) ? questions[text] : null;
    }

    private Habit textHabit(int text) {
        return within(text, QUESTIONS, TEXTS - 1) ? sea.habitAt(text - QUESTIONS) : null;
    }

    private int bytesOfTexts() {
        int bytes = 0;
        for (int q = 0; q < QUESTIONS; q++) {
            bytes += questions[q].length;
        }
        for (int habit = 0; habit < HABITS; habit++) {
            bytes += sea.habits[habit].length;
        }
        return bytes;
    }

    private int addFrom(Sheet sheet, int i) {
        return forms.add(sheet.item(i), sheet.item(i + 1), sheet.item(i + 2),
                sheet.item(i + 3), sheet.item(i + 4), sheet.item(i + 5));
    }

    /**
     * One FORM's part in SHARE. An OPEN first QUESTION is yes only where that pulls the share the way
     * it is to go, an OPEN second one always goes that way.
     */
    private void addToShare(int first, int second, int end) {
        boolean counted = second == Question.YES || second == Question.OPEN && end == 1;
        boolean helps = counted == (end == 1);
        if (first == Question.YES || first == Question.OPEN && helps) {
            tally.add(counted ? 1 : 0, 1);
        }
    }

    private int worthOf(int x, int end) {
        int worth = 0;
        int blanks = 0;
        for (int f = 0; f < forms.total; f++) {
            if (forms.isKnown(f) && forms.entry(f, Forms.KIND) == DROPPED) {
                int seconds = forms.entry(f, Forms.BOX_A);
                if (seconds == BLANK) {
                    blanks++;
                } else {
                    worth += laws.sinkShare(x, seconds);
                }
            }
        }
        return blanks == 0 ? worth : worth + blanks * laws.blankShare(x, end);
    }

    /** Brings the LADDER of a SHEET to THE SEA, or tells why it is none. */
    private int layLadder(int s, int h) {
        Sheet sheet = sheetAt(s);
        if (sheet == null || !within(h, 1, LADDER_HOURS)) {
            return BAD;
        }
        if (sheet.lost) {
            return found(NULL);
        }
        if (h > sheet.length) {
            return found(INDEX);
        }
        for (int i = 0; i < h; i++) {
            if (!within(sheet.item(i), 0, Sea.CELLS - 1)) {
                return NOT;
            }
            sea.row[i] = sheet.item(i);
        }
        return FINE;
    }

    private long tellTally(int what) {
        if (tally.forms == 0) {
            return asLong(NOT);
        }
        fraction.become(tally.above, tally.below);
        return fraction.part(what);
    }

    private long tellDifference(int what) {
        if (tally.forms == 0 || others.forms == 0) {
            return asLong(NOT);
        }
        fraction.become(tally.above * others.below - others.above * tally.below, tally.below * others.below);
        return fraction.part(what);
    }

    private static boolean areMinutes(Sheet sheet) {
        int ahead = 0;
        for (int i = 0; i < sheet.length; i++) {
            int minute = sheet.item(i);
            if (!within(minute, ahead, 999)) {
                return false;
            }
            ahead = minute;
        }
        return true;
    }

    private int waitsAtEither(Sheet sheet) {
        int both = laws.value(Laws.WASH) + laws.value(Laws.RINSE);
        int firstFree = 0;
        int secondFree = 0;
        int waits = 0;
        for (int i = 0; i < sheet.length; i++) {
            int comes = sheet.item(i);
            int begins = Math.max(comes, Math.min(firstFree, secondFree));
            if (firstFree <= secondFree) {
                firstFree = begins + both;
            } else {
                secondFree = begins + both;
            }
            waits += begins - comes;
        }
        return waits;
    }

    private int waitsInARow(Sheet sheet) {
        int wash = laws.value(Laws.WASH);
        int rinse = laws.value(Laws.RINSE);
        int washed = 0;
        int rinsed = 0;
        int waits = 0;
        for (int i = 0; i < sheet.length; i++) {
            int comes = sheet.item(i);
            washed = Math.max(comes, washed) + wash;
            rinsed = Math.max(washed, rinsed) + rinse;
            waits += rinsed - comes - wash - rinse;
        }
        return waits;
    }

    private static boolean arePairs(Sheet sheet) {
        for (int i = 0; i < sheet.length; i++) {
            boolean takes = i % 2 == 0;
            if (!within(sheet.item(i), takes ? 1 : 0, takes ? 20 : 99)) {
                return false;
            }
        }
        return sheet.length % 2 == 0;
    }

    /**
     * For every set of pairs that are through, the most that the rest can still save: what they save
     * hangs on the WEEKS behind them, not on their order, so no row is gone through twice.
     */
    private void reckonSavings(Sheet sheet, int pairs, int t) {
        int all = (1 << pairs) - 1;
        mostBehind[all] = 0;
        for (int through = all - 1; through >= 0; through--) {
            int most = 0;
            for (int i = 0; i < pairs; i++) {
                if ((through & 1 << i) == 0) {
                    most = Math.max(most, savedWith(sheet, through, i, t));
                }
            }
            mostBehind[through] = most;
        }
    }

    private int savedWith(Sheet sheet, int through, int next, int t) {
        int end = sheet.item(2 * next);
        for (int i = 0; i < MOST_PAIRS; i++) {
            if ((through & 1 << i) != 0) {
                end += sheet.item(2 * i);
            }
        }
        return Math.max(0, t - end) * sheet.item(2 * next + 1) + mostBehind[through | 1 << next];
    }

    private int firstOfBest(Sheet sheet, int pairs, int t) {
        for (int i = 0; i < pairs; i++) {
            if (savedWith(sheet, 0, i, t) == mostBehind[0]) {
                return i;
            }
        }
        return NONE;
    }

    private int itemRefusal(Sheet sheet, int format, int i) {
        if (sheet == null || !within(format, 0, LAST_FORMAT)) {
            return BAD;
        }
        if (sheet.lost) {
            return found(NULL);
        }
        if (sheet.format != format) {
            return found(CAST);
        }
        return sheet.hasItems(i, 1) ? FINE : found(INDEX);
    }

    /** A FRACTION in lowest terms, what is below being above 0. */
    private static final class Fraction {
        private long above = 0;
        private long below = 1;

        void become(long above, long below) {
            long divisor = commonDivisor(Math.abs(above), below);
            if (above == 0 || divisor <= 0) {
                this.above = 0;
                this.below = 1;
                return;
            }
            this.above = above / divisor;
            this.below = below / divisor;
        }

        long part(int what) {
            return what == 0 ? above : below;
        }

        private static long commonDivisor(long a, long b) {
            long one = a;
            long other = b;
            // a hundred steps are more than two longs can need
            for (int step = 0; step < 100 && other != 0; step++) {
                long rest = one % other;
                one = other;
                other = rest;
            }
            return one;
        }
    }

    /** What is gathered from FORMS, one number by another. */
    private static final class Tally {
        private long above = 0;
        private long below = 0;
        private int forms = 0;

        void clear() {
            above = 0;
            below = 0;
            forms = 0;
        }

        void add(int above, int below) {
            this.above += above;
            this.below += below;
            forms++;
        }
    }

    /** The FORMS, each as six entries in the order in which form() takes them. */
    private static final class Forms {
        private static final int MOST = 40, ENTRIES = 6;
        private static final int KIND = 0, CREW = 1, WEEK = 2, BOX_A = 3, BOX_B = 4;

        private final int[] entries = new int[MOST * ENTRIES];
        private int total = 0;
        private int asOf = LAST_WEEK;

        int add(int kind, int crew, int week, int a, int b, int c) {
            if (!within(kind, SIGHTED, MENDED) || !within(crew, 0, LAST_CREW) || !within(week, 0, LAST_WEEK)
                    || !within(a, BLANK, MOST_IN_BOX) || !within(b, BLANK, MOST_IN_BOX)
                    || !within(c, BLANK, MOST_IN_BOX)) {
                return BAD;
            }
            if (total >= MOST) {
                return FULL;
            }
            int at = total * ENTRIES;
            entries[at + KIND] = kind;
            entries[at + CREW] = crew;
            entries[at + WEEK] = week;
            entries[at + BOX_A] = a;
            entries[at + BOX_B] = b;
            entries[at + BOX_A + LAST_BOX] = c;
            total++;
            return total - 1;
        }

        boolean has(int form) {
            return within(form, 0, total - 1);
        }

        int entry(int form, int which) {
            return has(form) && within(which, 0, ENTRIES - 1) ? entries[form * ENTRIES + which] : BLANK;
        }

        int refill(int form, int box, int v) {
            int was = entry(form, BOX_A + box);
            if (has(form) && within(box, 0, LAST_BOX)) {
                entries[form * ENTRIES + BOX_A + box] = v;
            }
            return was;
        }

        boolean isKnown(int form) {
            return has(form) && entry(form, WEEK) <= asOf;
        }

        int knownForms() {
            int known = 0;
            for (int f = 0; f < total; f++) {
                if (isKnown(f)) {
                    known++;
                }
            }
            return known;
        }

        int blankBoxes() {
            int blanks = 0;
            for (int f = 0; f < total; f++) {
                for (int box = 0; box <= LAST_BOX; box++) {
                    if (isKnown(f) && entry(f, BOX_A + box) == BLANK) {
                        blanks++;
                    }
                }
            }
            return blanks;
        }

        void tallyLosses(Tally tally, int from, int to) {
            tally.clear();
            for (int f = 0; f < total; f++) {
                int sailed = entry(f, BOX_A);
                int lost = entry(f, BOX_B);
                if (isKnown(f) && entry(f, KIND) == SAILED && within(sailed, from, to) && within(lost, 0, sailed)) {
                    tally.add(lost, sailed);
                }
            }
        }

        void tallyWeeks(Tally tally, int kind, int box, int from, int to) {
            tally.clear();
            for (int f = 0; f < total; f++) {
                if (tells(f, kind, box) && within(entry(f, WEEK), from, to)) {
                    tally.add(entry(f, BOX_A + box), 1);
                }
            }
        }

        void tallyCrews(Tally own, Tally others, int crew, int kind, int box) {
            own.clear();
            others.clear();
            for (int f = 0; f < total; f++) {
                if (tells(f, kind, box)) {
                    Tally tally = entry(f, CREW) == crew ? own : others;
                    tally.add(entry(f, BOX_A + box), 1);
                }
            }
        }

        private boolean tells(int form, int kind, int box) {
            return isKnown(form) && entry(form, KIND) == kind && entry(form, BOX_A + box) != BLANK;
        }
    }

    /** A QUESTION, taken apart byte by byte as it is typed. */
    private static final class Question {
        private static final int NO = 0, YES = 1, OPEN = 2;
        private static final int MOST_BYTES = 60;
        // the shortest TEST has three bytes, and one more parts it from the next
        private static final int MOST_TESTS = 15;
        private static final int MOST_FIGURES = 3;
        // the letters stand in the order of a FORM's entries
        private static final String LETTERS = "krwabc";
        private static final String SIGNS = "<=>";
        private static final int AWAITS_LETTER = 0, AWAITS_SIGN = 1, IN_NUMBER = 2;

        private final int[] entry = new int[MOST_TESTS];
        private final int[] sign = new int[MOST_TESTS];
        private final int[] number = new int[MOST_TESTS];
        private final boolean[] beginsAlternative = new boolean[MOST_TESTS];
        private int tests = 0;
        private int length = 0;
        private int wrongByte = NONE;
        private int state = AWAITS_LETTER;
        private int figures = 0;
        private boolean behindBar = false;

        int clear() {
            int had = length;
            tests = 0;
            length = 0;
            wrongByte = NONE;
            state = AWAITS_LETTER;
            figures = 0;
            behindBar = false;
            return had;
        }

        int accept(int b) {
            if (length >= MOST_BYTES) {
                return FULL;
            }
            if (wrongByte == NONE && !goesOn(b)) {
                wrongByte = length;
            }
            length++;
            return length;
        }

        int faultPlace() {
            if (wrongByte != NONE) {
                return wrongByte;
            }
            return state == IN_NUMBER && figures > 0 ? NONE : length;
        }

        private boolean goesOn(int b) {
            if (state == AWAITS_LETTER) {
                return takesLetter(LETTERS.indexOf((char) b));
            }
            int last = tests - 1;
            if (!within(last, 0, MOST_TESTS - 1)) {
                return false;
            }
            return state == AWAITS_SIGN ? takesSign(last, SIGNS.indexOf((char) b)) : takesInNumber(last, b);
        }

        private boolean takesLetter(int which) {
            if (which < 0 || tests >= MOST_TESTS) {
                return false;
            }
            entry[tests] = which;
            number[tests] = 0;
            beginsAlternative[tests] = behindBar;
            tests++;
            state = AWAITS_SIGN;
            return true;
        }

        private boolean takesSign(int test, int which) {
            if (which < 0) {
                return false;
            }
            sign[test] = which - 1;
            state = IN_NUMBER;
            figures = 0;
            return true;
        }

        private boolean takesInNumber(int test, int b) {
            if (within(b, '0', '9') && figures < MOST_FIGURES) {
                number[test] = 10 * number[test] + b - '0';
                figures++;
                return true;
            }
            if (figures > 0 && (b == '&' || b == '|')) {
                behindBar = b == '|';
                state = AWAITS_LETTER;
                return true;
            }
            return false;
        }

        int answer(Forms forms, int form) {
            int whole = NO;
            int alternative = YES;
            for (int i = 0; i < tests && i < MOST_TESTS; i++) {
                if (beginsAlternative[i]) {
                    whole = either(whole, alternative);
                    alternative = YES;
                }
                alternative = both(alternative, testOf(i, forms.entry(form, entry[i])));
            }
            return either(whole, alternative);
        }

        private int testOf(int test, int v) {
            // KIND, CREW and WEEK are never below 0, so only a BOX can be told as BLANK
            if (v == BLANK) {
                return OPEN;
            }
            return Integer.compare(v, number[test]) == sign[test] ? YES : NO;
        }

        private static int both(int one, int other) {
            if (one == NO || other == NO) {
                return NO;
            }
            return one == OPEN || other == OPEN ? OPEN : YES;
        }

        private static int either(int one, int other) {
            if (one == YES || other == YES) {
                return YES;
            }
            return one == OPEN || other == OPEN ? OPEN : NO;
        }
    }

    /** The seven LAWS, and how charges do by them. */
    private static final class Laws {
        private static final int LAWS = 7;
        private static final int DIVE = 0, DEEPEST = 1, SPEED = 2, BURST = 3, WASH = 4, RINSE = 5, SHEDS = 6;
        private static final int[] LEAST = {1, 1, 1, 1, 1, 1, 0};
        private static final int[] MOST = {99, 999, 99, 99, 30, 30, 8};
        private static final int[] AT_FIRST = {20, 300, 30, 20, 2, 3, 2};
        private static final int MOST_BLANK_SECONDS = 120;

        private final int[] values = Arrays.copyOf(AT_FIRST, LAWS);

        boolean mayBe(int which, int v) {
            return within(which, 0, LAWS - 1) && within(v, LEAST[which], MOST[which]);
        }

        int value(int which) {
            return within(which, 0, LAWS - 1) ? values[which] : 0;
        }

        int change(int which, int v) {
            int was = value(which);
            if (mayBe(which, v)) {
                values[which] = v;
            }
            return was;
        }

        int sinkShare(int x, int seconds) {
            int deep = Math.min(values[DEEPEST], seconds * values[DIVE] / 10);
            long burst = values[BURST];
            long spread = Math.max(burst, seconds * values[SPEED] / 10);
            if (Math.abs(deep - x) > burst || spread == 0) {
                return 0;
            }
            return (int) (burst * burst * 1000000 / (spread * spread));
        }

        int blankShare(int x, int end) {
            int share = sinkShare(x, 0);
            for (int seconds = 1; seconds <= MOST_BLANK_SECONDS; seconds++) {
                int other = sinkShare(x, seconds);
                share = end == 0 ? Math.min(share, other) : Math.max(share, other);
            }
            return share;
        }
    }

    /** A HABIT: how boats go, HOUR by HOUR. */
    private static final class Habit {
        private static final int MOST_BYTES = 12;

        private final int[] bytes = new int[MOST_BYTES];
        private int length = 0;
        private int fault = NONE;
        private int lot;

        Habit(int lot) {
            this.lot = lot;
        }

        int clear() {
            int had = length;
            length = 0;
            fault = NONE;
            return had;
        }

        int accept(int b) {
            if (length >= MOST_BYTES) {
                return FULL;
            }
            if (fault == NONE && Sea.MOVES.indexOf((char) b) < 0) {
                fault = length;
            }
            bytes[length] = b;
            length++;
            return length;
        }

        /** Where a boat comes to that is in a CELL in an HOUR. */
        int next(int cell, int hour) {
            if (fault != NONE || length <= 0 || length > MOST_BYTES || hour < 0) {
                return cell;
            }
            return Sea.step(cell, bytes[hour % length]);
        }
    }

    /** THE SEA with its boats, and the LADDERS that search it. */
    private static final class Sea {
        private static final int SIDE = 5, CELLS = SIDE * SIDE, ALL_CELLS = (1 << CELLS) - 1;
        // in the order of the CELLS they lead to, so that rows come the least first
        private static final String MOVES = "nw.es";

        private final Habit[] habits = new Habit[HABITS];
        private final int[] row = new int[LADDER_HOURS];
        private final int[] best = new int[LADDER_HOURS];
        // by HABIT, HOUR and CELL: where the boats begin that are found from that CELL
        private final int[] meets = new int[HABITS * LADDER_HOURS * CELLS];
        // by HOUR and HABIT: where the boats begin that are found up to that HOUR
        private final int[] foundUpTo = new int[LADDER_HOURS * HABITS];
        private int mostLots = -1;
        private int start = ALL_CELLS;
        private int wide = 0;

        Sea() {
            for (int habit = 0; habit < HABITS; habit++) {
                habits[habit] = new Habit(habit == 0 ? 1 : 0);
            }
        }

        Habit habitAt(int habit) {
            return within(habit, 0, HABITS - 1) ? habits[habit] : null;
        }

        int bestCell(int i) {
            return within(i, 0, LADDER_HOURS - 1) ? best[i] : NONE;
        }

        static int step(int cell, int move) {
            switch (move) {
                case 'n':
                    return cell < SIDE ? cell : cell - SIDE;
                case 's':
                    return cell >= CELLS - SIDE ? cell : cell + SIDE;
                case 'w':
                    return cell % SIDE == 0 ? cell : cell - 1;
                case 'e':
                    return cell % SIDE == SIDE - 1 ? cell : cell + 1;
                default:
                    return cell;
            }
        }

        /** What the first h CELLS of the row find. */
        void findAlong(int h) {
            chart(h);
            for (int hour = 0; hour < h && hour < LADDER_HOURS; hour++) {
                gather(hour, row[hour]);
            }
        }

        int lotsFound(int hour) {
            int lots = 0;
            for (int habit = 0; habit < HABITS; habit++) {
                lots += habits[habit].lot * Integer.bitCount(foundBy(hour, habit));
            }
            return lots;
        }

        int allLots() {
            int lots = 0;
            for (int habit = 0; habit < HABITS; habit++) {
                lots += habits[habit].lot * Integer.bitCount(start);
            }
            return lots;
        }

        int missedBy(int hour, int habit) {
            return start & ~foundBy(hour, habit);
        }

        void seekBest(int base, int h) {
            chart(h);
            mostLots = -1;
            climb(base, 0, h);
        }

        private int foundBy(int hour, int habit) {
            boolean there = within(hour, 0, LADDER_HOURS - 1) && within(habit, 0, HABITS - 1);
            return there ? foundUpTo[hour * HABITS + habit] : 0;
        }

        private void chart(int h) {
            Arrays.fill(meets, 0);
            for (int habit = 0; habit < HABITS; habit++) {
                for (int begin = 0; begin < CELLS; begin++) {
                    if ((start & 1 << begin) != 0) {
                        chartBoat(habit, begin, h);
                    }
                }
            }
        }

        private void chartBoat(int habit, int begin, int h) {
            int cell = begin;
            for (int hour = 0; hour < h && hour < LADDER_HOURS; hour++) {
                int cells = (habit * LADDER_HOURS + hour) * CELLS;
                meets[cells + cell] |= 1 << begin;
                for (int m = 0; wide == 1 && m < MOVES.length(); m++) {
                    meets[cells + step(cell, MOVES.charAt(m))] |= 1 << begin;
                }
                cell = habits[habit].next(cell, hour);
            }
        }

        private void gather(int hour, int cell) {
            for (int habit = 0; habit < HABITS; habit++) {
                int here = meets[(habit * LADDER_HOURS + hour) * CELLS + cell];
                foundUpTo[hour * HABITS + habit] = foundBy(hour - 1, habit) | here;
            }
        }

        /** Goes through all rows of h CELLS on from one, the least first: at most six levels deep. */
        private void climb(int cell, int hour, int h) {
            if (hour >= h || hour >= LADDER_HOURS) {
                return;
            }
            row[hour] = cell;
            gather(hour, cell);
            if (hour == h - 1) {
                keepIfBetter(hour);
                return;
            }
            for (int m = 0; m < MOVES.length(); m++) {
                int next = step(cell, MOVES.charAt(m));
                // a move against the edge is no neighbour, and would come ahead of its turn
                if (next != cell || MOVES.charAt(m) == '.') {
                    climb(next, hour + 1, h);
                }
            }
        }

        private void keepIfBetter(int hour) {
            int lots = lotsFound(hour);
            if (lots > mostLots) {
                mostLots = lots;
                System.arraycopy(row, 0, best, 0, LADDER_HOURS);
            }
        }
    }

    /** MENDING: how many flights there can be at most, and THE PLAN that leads to them. */
    private static final class Mending {
        private static final int SIDE = MOST_FLYERS + 1;

        // by WEEKS that are left, FRESH and WORN flyers; with no WEEK left it stays 0
        private final int[] most = new int[(MOST_WEEKS + 1) * SIDE * SIDE];
        private int flyers = 0;
        private int sheds = 0;
        private int reckonedWeeks = 0;
        private int fresh = 0;
        private int worn = 0;
        private int flew = 0;
        private int flewFresh = 0;
        private int mended = 0;

        /** What was reckoned stands as long as flyers and SHEDS are the same. */
        void reckon(int n, int sheds, int weeks) {
            if (n != flyers || sheds != this.sheds) {
                flyers = n;
                this.sheds = sheds;
                reckonedWeeks = 0;
            }
            for (int left = reckonedWeeks + 1; left <= weeks && left <= MOST_WEEKS; left++) {
                reckonWeek(left);
                reckonedWeeks = left;
            }
        }

        int mostFlights(int left, int fresh, int worn) {
            if (!within(left, 0, MOST_WEEKS) || !within(fresh, 0, MOST_FLYERS) || !within(worn, 0, MOST_FLYERS)) {
                return 0;
            }
            return most[(left * SIDE + fresh) * SIDE + worn];
        }

        void planUpTo(int i, int weeks) {
            fresh = flyers;
            worn = 0;
            for (int week = 0; week <= i && week < weeks; week++) {
                planWeek(weeks - week);
            }
        }

        private void reckonWeek(int left) {
            for (int fresh = 0; fresh <= flyers && fresh <= MOST_FLYERS; fresh++) {
                for (int worn = 0; worn <= flyers - fresh; worn++) {
                    most[(left * SIDE + fresh) * SIDE + worn] = bestOf(left, fresh, worn);
                }
            }
        }

        private int bestOf(int left, int fresh, int worn) {
            int best = 0;
            for (int fliesFresh = 0; fliesFresh <= fresh; fliesFresh++) {
                for (int fliesWorn = 0; fliesWorn <= worn; fliesWorn++) {
                    int free = Math.min(worn - fliesWorn, sheds);
                    for (int mendWorn = 0; mendWorn <= free; mendWorn++) {
                        // who is FRESH can do all that who is DONE can, so a shed is never better empty
                        int mendDone = Math.min(flyers - fresh - worn, sheds - mendWorn);
                        int later = mostFlights(left - 1, fresh - fliesFresh + mendWorn + mendDone,
                                worn - fliesWorn - mendWorn + fliesFresh);
                        best = Math.max(best, fliesFresh + fliesWorn + later);
                    }
                }
            }
            return best;
        }

        private void planWeek(int left) {
            int due = mostFlights(left, fresh, worn);
            for (int fly = fresh + worn; fly >= 0; fly--) {
                for (int fliesFresh = Math.min(fly, fresh); fliesFresh >= 0 && fly - fliesFresh <= worn; fliesFresh--) {
                    if (mendsFewest(left - 1, fliesFresh, fly - fliesFresh, due - fly)) {
                        return;
                    }
                }
            }
        }

        /** Goes on to the next WEEK with the fewest mended that leave what is due, if some do. */
        private boolean mendsFewest(int left, int fliesFresh, int fliesWorn, int due) {
            int done = flyers - fresh - worn;
            for (int mendWorn = 0; mendWorn <= Math.min(worn - fliesWorn, sheds); mendWorn++) {
                for (int mendDone = 0; mendDone <= Math.min(done, sheds - mendWorn); mendDone++) {
                    int nextFresh = fresh - fliesFresh + mendWorn + mendDone;
                    int nextWorn = worn - fliesWorn - mendWorn + fliesFresh;
                    if (mostFlights(left, nextFresh, nextWorn) == due) {
                        fresh = nextFresh;
                        worn = nextWorn;
                        flew = fliesFresh + fliesWorn;
                        flewFresh = fliesFresh;
                        mended = mendWorn + mendDone;
                        return true;
                    }
                }
            }
            return false;
        }
    }

    /** A SHEET; its row is as long as can be and serves every FORMAT, items being cut as they are put. */
    private static final class Sheet {
        private final int[] items = new int[MOST_ITEMS];
        private boolean lost = true;
        private int format = 0;
        private int length = 0;

        void renew(int format, int n) {
            Arrays.fill(items, 0);
            this.format = format;
            length = n;
            lost = false;
        }

        boolean hasItems(int i, int n) {
            return i >= 0 && n >= 0 && i <= length && n <= length - i;
        }

        int item(int i) {
            return within(i, 0, length - 1) ? items[i] : 0;
        }

        void put(int i, int v) {
            if (!within(i, 0, length - 1)) {
                return;
            }
            if (format == 0) {
                items[i] = (byte) v;
            } else {
                items[i] = format == 1 ? (short) v : v;
            }
        }
    }
}
