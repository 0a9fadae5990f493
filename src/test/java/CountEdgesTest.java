import java.math.BigInteger;
import java.util.ArrayList;
import java.util.List;

/** Promises 38 and 39, count and digest, and the refusals in general, a sentence of the document by itself in each test. */
public final class CountEdgesTest {
    private static final Check CHECK = new Check();
    private static final int BAD = FormRoom.BAD;

    public static void main(String[] args) {
        counts();
        countsOfAllTexts();
        noOtherCount();
        noFindingAtFirst();
        latestFinding();
        findingStays();
        refusalsOfLongs();
        constants();
        digestOfNew();
        digestWraps();
        digestAsTold();
        digestOfShares();
        digestOfEach();
        digestOfNoMore();
        digestOfFull();
        CHECK.end();
    }

    private static void counts() {
        CHECK.sentence("0 FORMS, 1 KNOWN ones, 2 bytes of all texts, 3 AS OF, 4 START, 5 WIDE, 6 BLANK BOXES of KNOWN FORMS");
        FormRoom x = new FormRoom();
        int[] first = {0, 0, 0, 99, 33554431, 0, 0};
        for (int what = 0; what < 7; what++) {
            CHECK.due("count(" + what + ") at first", x.count(what), first[what]);
        }
        for (int i = 0; i < 40; i++) {
            x.form(0, 0, i, -1, -1, -1);
        }
        x.sea(0, 1);
        x.sea(1, 1);
        for (int asOf : new int[] {0, 1, 38, 39, 40, 99}) {
            x.asOf(asOf);
            int known = Math.min(asOf, 39) + 1;
            int[] due = {40, known, 0, asOf, 1, 1, 3 * known};
            for (int what = 0; what < 7; what++) {
                CHECK.due("count(" + what + ") as of " + asOf, x.count(what), due[what]);
            }
        }
    }

    private static void countsOfAllTexts() {
        CHECK.sentence("2 bytes of all texts");
        FormRoom x = new FormRoom();
        int bytes = 0;
        for (int text = 0; text < 5; text++) {
            for (int i = 0; i < (text < 2 ? 62 : 14); i++) {
                x.type(text, i);
            }
            bytes += text < 2 ? 60 : 12;
            CHECK.due("count(2)", x.count(2), bytes);
        }
        for (int text = 0; text < 5; text++) {
            bytes -= x.wipe(text);
            CHECK.due("count(2)", x.count(2), bytes);
        }
        CHECK.due("none is left", bytes, 0);
    }

    private static void noOtherCount() {
        CHECK.sentence("count: .. BAD.");
        FormRoom x = new FormRoom();
        for (int what : new int[] {-1, 7, 9, 10, Integer.MIN_VALUE, Integer.MAX_VALUE}) {
            CHECK.due("count(" + what + ")", x.count(what), BAD);
        }
    }

    private static void noFindingAtFirst() {
        CHECK.sentence("8 the number of the latest FINDING (0 before any)");
        FormRoom x = new FormRoom();
        CHECK.due("at first", x.count(8), 0);
        x.form(-1, 0, 0, 0, 0, 0);
        x.counts(0, 0);
        x.losses(1, 1, 0);
        x.sheet(0, 0, 61);
        x.get(-1, 0, 0);
        CHECK.due("behind BAD and NOT", x.count(8), 0);
        for (int i = 0; i < 13; i++) {
            x.type(2, 'n');
        }
        CHECK.due("behind FULL", x.count(8), 0);
    }

    private static void latestFinding() {
        CHECK.sentence("FINDINGS (answers -10 less the number ..): 1 NULL .. 2 INDEX .. 3 CAST .. 4 STORE .. 5 SIZE");
        FormRoom x = new FormRoom();
        x.sheet(0, 0, 1);
        x.sheet(1, 1, 1);
        for (int i = 0; i < 2; i++) {
            CHECK.due("SIZE", x.sheet(0, 0, -1), -15);
            CHECK.due("count(8)", x.count(8), 5);
            CHECK.due("NULL", x.lose(3), -11);
            CHECK.due("count(8)", x.count(8), 1);
            CHECK.due("STORE", x.copy(0, 0, 1, 0, 1), -14);
            CHECK.due("count(8)", x.count(8), 4);
            CHECK.due("INDEX", x.lay(0, 0, 1, 0), -12);
            CHECK.due("count(8)", x.count(8), 2);
            CHECK.due("CAST", x.lay(0, 1, 0, 0), -13);
            CHECK.due("count(8)", x.count(8), 3);
        }
    }

    private static void findingStays() {
        CHECK.sentence("the number of the latest FINDING: whatever else is asked behind it");
        FormRoom x = new FormRoom();
        x.sheet(0, 0, -1);
        x.sheet(0, 0, 2);
        x.lay(0, 0, 0, 1);
        x.get(0, 0, 0);
        x.copy(0, 0, 0, 1, 1);
        x.read(0);
        x.odds(0, 1, 0);
        x.write(0, 1, 0);
        x.lose(0);
        x.digest();
        CHECK.due("behind calls that are taken", x.count(8), 5);
        x.sheet(4, 0, -1);
        x.lay(4, 0, 0, 0);
        x.get(0, 3, 0);
        x.copy(0, 0, 4, 0, 0);
        x.odds(0, 7, 0);
        CHECK.due("behind BAD", x.count(8), 5);
    }

    private static void refusalsOfLongs() {
        CHECK.sentence("Where the answer is a long, a refusal -x is the least long and x more.");
        FormRoom x = new FormRoom();
        long least = -9223372036854775807L - 1;
        CHECK.due("share, BAD", x.share(2, 0), least + 2);
        CHECK.due("share, NOT", x.share(0, 0), least + 3);
        CHECK.due("odds, BAD", x.odds(4, 1, 0), least + 2);
        CHECK.due("odds, NULL", x.odds(0, 1, 0), least + 11);
        x.sheet(0, 0, 1);
        CHECK.due("odds, INDEX", x.odds(0, 2, 0), least + 12);
        x.lay(0, 0, 0, 25);
        CHECK.due("odds, NOT", x.odds(0, 1, 0), least + 3);
        CHECK.due("losses, BAD", x.losses(0, 1, 0), least + 2);
        CHECK.due("losses, NOT", x.losses(1, 1, 0), least + 3);
        CHECK.due("mean, BAD", x.mean(4, 0, 0, 0, 0), least + 2);
        CHECK.due("mean, NOT", x.mean(0, 0, 0, 0, 0), least + 3);
        CHECK.due("did, BAD", x.did(4, 0, 0, 0, 0), least + 2);
        CHECK.due("did, NOT", x.did(0, 0, 0, 0, 0), least + 3);
        CHECK.due("leans, BAD", x.leans(8, 0, 0, 0), least + 2);
        CHECK.due("leans, NOT", x.leans(0, 0, 0, 0), least + 3);
    }

    private static void constants() {
        CHECK.sentence("NONE = -1, BAD = -2, NOT = -3, FULL = -4");
        CHECK.due("NONE", FormRoom.NONE, -1);
        CHECK.due("BAD", FormRoom.BAD, -2);
        CHECK.due("NOT", FormRoom.NOT, -3);
        CHECK.due("FULL", FormRoom.FULL, -4);
    }

    /** By numbers without an end, of which the lowest 64 bits are taken last of all. */
    private static long folded(List<Long> each) {
        BigInteger h = BigInteger.valueOf(17);
        for (long v : each) {
            h = h.multiply(BigInteger.valueOf(31)).add(BigInteger.valueOf(v));
        }
        return h.longValue();
    }

    private static List<Long> list(long... each) {
        List<Long> list = new ArrayList<>();
        for (long v : each) {
            list.add(v);
        }
        return list;
    }

    private static void digestOfNew() {
        CHECK.sentence("h is 17; h becomes 31 h and each of: ..: of a new room");
        long not = Long.MIN_VALUE + 3;
        List<Long> each = list(0, 0, 0, 99, 33554431, 0, 0, 0, 0, -1, -1, -1, -3, -3, -3, -3, not, not, not, not,
                20, 300, 30, 20, 2, 3, 2, 0, -1);
        CHECK.due("digest()", new FormRoom().digest(), folded(each));
    }

    private static void digestWraps() {
        CHECK.sentence("as longs that wrap");
        FormRoom x = new FormRoom();
        x.form(2, 7, 99, 45, 5, -1);
        x.form(1, 6, 50, 100, -1, 999);
        x.asOf(50);
        Check.type(x, 0, "k=1");
        Check.type(x, 1, "b=1|c=999");
        Check.type(x, 3, "nn?");
        List<Long> each = list(2, 1, 15, 50, 33554431, 0, 1, 2, 7, 99, 45, 5, -1, 0, 1, 6, 50, 100, -1, 999, 1,
                -1, -1, -1, 2, -1, 1, 0, 1, 0, 1, 1, 1, 1, 20, 300, 30, 20, 2, 3, 2, 200, -1);
        CHECK.due("digest()", x.digest(), folded(each));
        x.asOf(99);
        each.set(1, 2L);
        each.set(3, 99L);
        each.set(6, 2L);
        each.set(13, 1L);
        each.set(29, 1L);
        each.set(42, 4L);
        CHECK.due("digest() as of 99", x.digest(), folded(each));
    }

    private static void digestAsTold() {
        CHECK.sentence("of QUESTIONS counts() 0, 1 (as they are told); share() 0, 1, above and below (likewise)");
        FormRoom x = new FormRoom();
        Check.type(x, 1, "a=1");
        long not = Long.MIN_VALUE + 3;
        List<Long> each = list(0, 0, 3, 99, 33554431, 0, 0, 0, -1, -1, -1, -1, -3, -3, 0, 0, not, not, not, not,
                20, 300, 30, 20, 2, 3, 2, 0, -1);
        CHECK.due("QUESTION 0 has a FAULT", x.digest(), folded(each));
        Check.type(x, 0, "a=1");
        each.set(2, 6L);
        each.set(7, -1L);
        each.set(12, 0L);
        each.set(13, 0L);
        for (int i = 0; i < 4; i++) {
            each.set(16 + i, (long) (i % 2));
        }
        CHECK.due("none has", x.digest(), folded(each));
    }

    private static void digestOfShares() {
        CHECK.sentence("share() 0, 1, above and below: in this order");
        FormRoom x = new FormRoom();
        Check.type(x, 0, "k=0");
        Check.type(x, 1, "a=1");
        for (int a : new int[] {1, 0, 0, 0, -1, -1}) {
            x.form(0, 0, 0, a, 0, 0);
        }
        CHECK.parts("the least", x.share(0, 0), x.share(0, 1), 1, 6);
        CHECK.parts("the greatest", x.share(1, 0), x.share(1, 1), 1, 2);
        x.fill(5, 0, 1);
        CHECK.parts("the least", x.share(0, 0), x.share(0, 1), 1, 3);
        x.fill(3, 0, 1);
        // the least is 1 by 2, the greatest 2 by 3: no number of them stands twice in its place
        List<Long> each = list(6, 6, 6, 99, 33554431, 0, 1);
        for (int a : new int[] {1, 0, 0, 1, -1, 1}) {
            each.addAll(list(0, 0, 0, a, 0, 0, 1));
        }
        each.addAll(list(-1, -1, -1, -1, -1, 6, 0, 3, 1, 1, 2, 2, 3, 20, 300, 30, 20, 2, 3, 2, 0, -1));
        CHECK.due("digest()", x.digest(), folded(each));
    }

    private static void differs(String what, FormRoom x, long[] before) {
        long now = x.digest();
        CHECK.holds(what + " is in it", now != before[0]);
        before[0] = now;
    }

    private static void digestOfEach() {
        CHECK.sentence("each of: count() 0 to 6; of each FORM about() 0 to 6; fault() of texts; .. LAWS; depth(); size(1)");
        FormRoom x = new FormRoom();
        long[] before = {x.digest()};
        x.form(3, 0, 50, 1, 1, 1);
        differs("a FORM", x, before);
        for (int box = 0; box < 3; box++) {
            x.fill(0, box, 2);
            differs("BOX " + box, x, before);
        }
        x.asOf(98);
        differs("AS OF", x, before);
        x.sea(0, 3);
        differs("START", x, before);
        x.sea(1, 1);
        differs("WIDE", x, before);
        for (int text = 0; text < 5; text++) {
            x.type(text, '?');
            differs("text " + text, x, before);
        }
        int[] laws = {20, 300, 30, 20, 2, 3, 2};
        for (int which = 0; which < 7; which++) {
            x.law(which, laws[which] - 1);
            differs("LAW " + which, x, before);
        }
    }

    private static void digestOfNoMore() {
        CHECK.sentence("each of: ..: and of nothing else");
        FormRoom x = new FormRoom();
        Check.type(x, 2, "n");
        long before = x.digest();
        x.habit(0, 9);
        Check.lay(x, 0, 0, 1, 2, 3);
        x.lay(0, 1, 0, 0);
        x.write(3, 3, 0);
        x.lose(0);
        x.lose(0);
        Check.type(x, 2, "s");
        CHECK.due("LOTS, SHEETS, FINDINGS, which bytes", x.digest(), before);
        CHECK.due("asked again", x.digest(), before);
    }

    private static void digestOfFull() {
        CHECK.sentence("of each FORM about() 0 to 6: of forty");
        FormRoom x = new FormRoom();
        List<Long> each = list(40, 40, 0, 99, 33554431, 0, 0);
        for (int i = 0; i < 40; i++) {
            x.form(2, i % 8, 99, 10 + i, i % 2, 999);
            each.addAll(list(2, i % 8, 99, 10 + i, i % 2, 999, 1));
        }
        long not = Long.MIN_VALUE + 3;
        each.addAll(list(0, 0, -1, -1, -1, -3, -3, -3, -3, not, not, not, not, 20, 300, 30, 20, 2, 3, 2, 0, 4));
        CHECK.due("digest()", x.digest(), folded(each));
        x.form(0, 0, 0, 0, 0, 0);
        CHECK.due("behind one more, which is FULL", x.digest(), folded(each));
    }
}
