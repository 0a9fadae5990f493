/** Promises 32 to 36, 38 and 39: sheet, lose, lay, get, copy, count, digest. */
public final class SheetsTest {
    private static final Check CHECK = new Check();

    public static void main(String[] args) {
        sheet();
        lose();
        layAndGet();
        layAndGetRefused();
        copy();
        copyRefused();
        count();
        digest();
        CHECK.end();
    }

    private static void sheet() {
        FormRoom x = new FormRoom();
        CHECK.due("60", x.sheet(0, 0, 60), 60);
        x.lay(0, 0, 59, 5);
        CHECK.due("again", x.sheet(0, 0, 60), 60);
        CHECK.due("new", x.get(0, 0, 59), 0);
        CHECK.due("61", x.sheet(0, 0, 61), -2);
        CHECK.due("SIZE", x.sheet(0, 0, -1), Check.SIZE);
        CHECK.due("finding", x.count(8), 5);
        CHECK.due("as it was", x.lose(0), 60);
        CHECK.due("format 3", x.sheet(0, 3, 1), -2);
        CHECK.due("format -1", x.sheet(0, -1, 1), -2);
        CHECK.due("sheet 4", x.sheet(4, 0, 1), -2);
        CHECK.due("sheet -1", x.sheet(-1, 0, 1), -2);
        CHECK.due("BAD ahead of SIZE", x.sheet(0, 3, -1), -2);
        CHECK.due("0", x.sheet(3, 2, 0), 0);
        CHECK.due("none lost", x.lose(3), 0);
    }

    private static void lose() {
        FormRoom x = new FormRoom();
        x.sheet(2, 1, 7);
        CHECK.due("lose", x.lose(2), 7);
        CHECK.due("lost", x.lose(2), Check.NULL);
        CHECK.due("finding", x.count(8), 1);
        CHECK.due("sheet 4", x.lose(4), -2);
        CHECK.due("sheet -1", x.lose(-1), -2);
        CHECK.due("get", x.get(2, 1, 0), Integer.MIN_VALUE);
    }

    private static void layAndGet() {
        FormRoom x = new FormRoom();
        int[] laid = {127, 128, 255, 256, -129, 32768, 65535, Integer.MAX_VALUE, Integer.MIN_VALUE, 0x12345678};
        for (int format = 0; format < 3; format++) {
            x.sheet(format, format, laid.length);
            for (int i = 0; i < laid.length; i++) {
                CHECK.due("lay", x.lay(format, format, i, laid[i]), 1);
                int due = format == 0 ? (byte) laid[i] : format == 1 ? (short) laid[i] : laid[i];
                CHECK.due("format " + format + " of " + laid[i], x.get(format, format, i), due);
            }
        }
    }

    private static void layAndGetRefused() {
        FormRoom x = new FormRoom();
        int least = Integer.MIN_VALUE;
        x.sheet(1, 1, 3);
        refusedDue(x, 4, 0, 0, -2, 0);
        refusedDue(x, -1, 0, 0, -2, 0);
        refusedDue(x, 0, 3, 0, -2, 0);
        refusedDue(x, 1, -1, 0, -2, 0);
        refusedDue(x, 0, 0, 0, Check.NULL, 1);
        refusedDue(x, 1, 1, 3, Check.INDEX, 2);
        refusedDue(x, 1, 0, 3, Check.CAST, 3);
        refusedDue(x, 1, 1, -1, Check.INDEX, 2);
        refusedDue(x, 1, 2, 0, Check.CAST, 3);
        refusedDue(x, 1, 1, least, Check.INDEX, 2);
        refusedDue(x, 1, 1, Integer.MAX_VALUE, Check.INDEX, 2);
        for (int i = 0; i < 3; i++) {
            CHECK.due("unchanged", x.get(1, 1, i), 0);
        }
        x.sheet(2, 2, 1);
        x.lay(2, 2, 0, least);
        CHECK.due("the least int itself", x.get(2, 2, 0), least);
        CHECK.due("no finding", x.count(8), 2);
    }

    private static void refusedDue(FormRoom x, int s, int format, int i, int due, int finding) {
        CHECK.due("lay(" + s + ", " + format + ", " + i + ")", x.lay(s, format, i, 7), due);
        CHECK.due("finding of lay", x.count(8), finding);
        CHECK.due("get(" + s + ", " + format + ", " + i + ")", x.get(s, format, i), Integer.MIN_VALUE);
        CHECK.due("finding of get", x.count(8), finding);
    }

    private static void copy() {
        FormRoom x = new FormRoom();
        Check.lay(x, 0, 1, 1, 2, 3, 4, 5);
        CHECK.due("to itself, up", x.copy(0, 0, 0, 1, 4), 1);
        itemsDue(x, 0, 1, 1, 1, 2, 3, 4);
        CHECK.due("to itself, down", x.copy(0, 2, 0, 0, 3), 1);
        itemsDue(x, 0, 1, 2, 3, 4, 3, 4);
        Check.lay(x, 1, 1, 9, 9);
        CHECK.due("to another", x.copy(0, 3, 1, 0, 2), 1);
        itemsDue(x, 1, 1, 3, 4);
        CHECK.due("none at the end", x.copy(0, 5, 1, 2, 0), 1);
        CHECK.due("none", x.copy(1, 0, 0, 0, 0), 1);
        itemsDue(x, 0, 1, 2, 3, 4, 3, 4);
    }

    private static void itemsDue(FormRoom x, int s, int format, int... due) {
        for (int i = 0; i < due.length; i++) {
            CHECK.due("item " + i, x.get(s, format, i), due[i]);
        }
    }

    private static void copyRefused() {
        FormRoom x = new FormRoom();
        Check.lay(x, 0, 2, 1, 2, 3);
        Check.lay(x, 1, 2, 4, 5);
        Check.lay(x, 2, 1, 6);
        CHECK.due("s 4", x.copy(4, 0, 0, 0, 0), -2);
        CHECK.due("t -1", x.copy(0, 0, -1, 0, 0), -2);
        CHECK.due("BAD ahead of NULL", x.copy(3, 0, 4, 0, 0), -2);
        CHECK.due("s is LOST", x.copy(3, 0, 0, 0, 0), Check.NULL);
        CHECK.due("t is LOST", x.copy(0, 0, 3, 0, 0), Check.NULL);
        CHECK.due("NULL ahead of INDEX", x.copy(0, -1, 3, 0, 0), Check.NULL);
        CHECK.due("STORE", x.copy(0, 0, 2, 0, 1), Check.STORE);
        CHECK.due("STORE ahead of INDEX", x.copy(0, -1, 2, 0, 1), Check.STORE);
        CHECK.due("finding", x.count(8), 4);
        int[][] wrong = {{-1, 0, 1}, {0, -1, 1}, {0, 0, -1}, {0, 0, 3}, {2, 0, 2}, {0, 1, 2}, {4, 0, 0}, {0, 3, 0},
            {1, 0, Integer.MAX_VALUE}, {Integer.MAX_VALUE, 0, 1}, {0, Integer.MAX_VALUE, Integer.MAX_VALUE},
            {Integer.MIN_VALUE, 0, 1}, {0, 0, Integer.MIN_VALUE}};
        for (int[] w : wrong) {
            CHECK.due("INDEX " + w[0] + ", " + w[1] + ", " + w[2], x.copy(0, w[0], 1, w[1], w[2]), Check.INDEX);
        }
        CHECK.due("finding", x.count(8), 2);
        itemsDue(x, 0, 2, 1, 2, 3);
        itemsDue(x, 1, 2, 4, 5);
    }

    private static void count() {
        FormRoom x = new FormRoom();
        x.form(0, 0, 5, -1, -1, -1);
        x.form(0, 0, 6, 0, -1, 0);
        Check.type(x, 1, "abc");
        Check.type(x, 4, "nn");
        x.sea(0, 5);
        x.sea(1, 1);
        int[] due = {2, 2, 5, 99, 5, 1, 4, -2, 0};
        for (int what = 0; what < due.length; what++) {
            CHECK.due("count(" + what + ")", x.count(what), due[what]);
        }
        x.asOf(5);
        CHECK.due("all", x.count(0), 2);
        CHECK.due("known", x.count(1), 1);
        CHECK.due("as of", x.count(3), 5);
        CHECK.due("blank boxes of known ones", x.count(6), 3);
        CHECK.due("9", x.count(9), -2);
        CHECK.due("-1", x.count(-1), -2);
    }

    private static void digest() {
        FormRoom x = new FormRoom();
        digestDue(x);
        x.form(2, 1, 5, 40, 3, -1);
        x.form(1, 2, 6, 40, 3, -1);
        digestDue(x);
        Check.type(x, 0, "k=2|c=1");
        digestDue(x);
        Check.type(x, 1, "b<4&c=1");
        Check.type(x, 3, "nnx");
        digestDue(x);
        x.asOf(5);
        x.law(6, 8);
        x.sea(0, 77);
        digestDue(x);
    }

    private static void digestDue(FormRoom x) {
        long h = 17;
        for (int what = 0; what <= 6; what++) {
            h = 31 * h + x.count(what);
        }
        for (int f = 0; f < x.count(0); f++) {
            for (int what = 0; what <= 6; what++) {
                h = 31 * h + x.about(f, what);
            }
        }
        for (int text = 0; text < 5; text++) {
            h = 31 * h + x.fault(text);
        }
        h = 31 * h + x.counts(0, 0);
        h = 31 * h + x.counts(0, 1);
        h = 31 * h + x.counts(1, 0);
        h = 31 * h + x.counts(1, 1);
        h = 31 * h + x.share(0, 0);
        h = 31 * h + x.share(0, 1);
        h = 31 * h + x.share(1, 0);
        h = 31 * h + x.share(1, 1);
        for (int which = 0; which < 7; which++) {
            int was = x.law(which, 1);
            x.law(which, was);
            h = 31 * h + was;
        }
        h = 31 * h + x.depth();
        h = 31 * h + x.size(1);
        CHECK.due("digest()", x.digest(), h);
    }
}
