/** Promises 23 to 27: losses, size, mean, did, leans. */
public final class SailingTest {
    private static final Check CHECK = new Check();

    public static void main(String[] args) {
        losses();
        size();
        mean();
        did();
        didAtTheEnds();
        leans();
        CHECK.end();
    }

    private static void losses() {
        FormRoom x = new FormRoom();
        CHECK.due("no form", x.losses(1, 999, 0), Check.NOT_LONG);
        x.form(2, 0, 5, 10, 4, 0);
        x.form(2, 0, 6, 20, 2, 0);
        x.form(2, 0, 6, 20, -1, 0);
        x.form(2, 0, 6, -1, 2, 0);
        x.form(2, 0, 6, 20, 21, 0);
        x.form(1, 0, 6, 20, 20, 0);
        x.form(2, 0, 6, 0, 0, 0);
        CHECK.parts("all", x.losses(1, 999, 0), x.losses(1, 999, 1), 1, 5);
        CHECK.parts("10", x.losses(10, 10, 0), x.losses(10, 10, 1), 2, 5);
        CHECK.parts("11 on", x.losses(11, 20, 0), x.losses(11, 20, 1), 1, 10);
        CHECK.due("between", x.losses(11, 19, 0), Check.NOT_LONG);
        x.form(2, 0, 6, 20, 20, 0);
        CHECK.parts("all lost", x.losses(20, 20, 0), x.losses(20, 20, 1), 11, 20);
        x.form(2, 0, 6, 999, 0, 0);
        CHECK.parts("none lost", x.losses(999, 999, 0), x.losses(999, 999, 1), 0, 1);
        x.asOf(5);
        CHECK.due("not known", x.losses(11, 999, 0), Check.NOT_LONG);
        CHECK.due("from 0", x.losses(0, 5, 0), Check.BAD_LONG);
        CHECK.due("to 1000", x.losses(1, 1000, 0), Check.BAD_LONG);
        CHECK.due("from above to", x.losses(6, 5, 0), Check.BAD_LONG);
        CHECK.due("what 2", x.losses(1, 5, 2), Check.BAD_LONG);
        CHECK.due("what -1", x.losses(1, 5, -1), Check.BAD_LONG);
    }

    private static void size() {
        FormRoom x = new FormRoom();
        CHECK.due("none", x.size(1), -1);
        x.form(2, 0, 5, 1, 1, 0);
        CHECK.due("one that sailed alone", x.size(1), 0);
        x.fill(0, 1, -1);
        x.form(2, 0, 5, 9, 3, 0);
        CHECK.due("1 to 9", x.size(1), 0);
        x.form(2, 0, 5, 99, 33, 0);
        CHECK.due("of like ones the greater", x.size(1), 9);
        x.form(2, 0, 5, 50, 17, 0);
        CHECK.due("more are lost", x.size(1), 9);
        x.form(2, 0, 5, 19, 0, 0);
        CHECK.due("least", x.size(1), 1);
        CHECK.due("at least two", x.size(2), -1);
        x.form(2, 0, 5, 50, -1, 0);
        x.form(2, 0, 5, 50, 51, 0);
        CHECK.due("aside", x.size(2), -1);
        x.form(2, 0, 6, 59, 59, 0);
        CHECK.due("two", x.size(2), 5);
        x.form(2, 0, 5, 100, 0, 0);
        x.form(2, 0, 5, 0, 0, 0);
        CHECK.due("beyond the spans", x.size(1), 1);
        x.asOf(5);
        CHECK.due("as of", x.size(2), -1);
        CHECK.due("m 0", x.size(0), -2);
        CHECK.due("m 10", x.size(10), -2);
        CHECK.due("m 9", x.size(9), -1);
    }

    private static void mean() {
        FormRoom x = new FormRoom();
        x.form(3, 0, 10, 4, -1, 0);
        x.form(3, 1, 12, 5, 7, 0);
        x.form(3, 2, 14, 9, -1, 0);
        x.form(0, 2, 14, 900, 900, 900);
        CHECK.parts("a", x.mean(3, 0, 0, 99, 0), x.mean(3, 0, 0, 99, 1), 6, 1);
        CHECK.parts("both with it", x.mean(3, 0, 10, 12, 0), x.mean(3, 0, 10, 12, 1), 9, 2);
        CHECK.parts("blanks", x.mean(3, 1, 0, 99, 0), x.mean(3, 1, 0, 99, 1), 7, 1);
        CHECK.parts("0 by 1", x.mean(3, 2, 0, 99, 0), x.mean(3, 2, 0, 99, 1), 0, 1);
        CHECK.due("none", x.mean(3, 1, 13, 99, 0), Check.NOT_LONG);
        x.asOf(13);
        CHECK.parts("known", x.mean(3, 0, 0, 99, 0), x.mean(3, 0, 0, 99, 1), 9, 2);
        CHECK.due("kind 4", x.mean(4, 0, 0, 99, 0), Check.BAD_LONG);
        CHECK.due("kind -1", x.mean(-1, 0, 0, 99, 0), Check.BAD_LONG);
        CHECK.due("box 3", x.mean(3, 3, 0, 99, 0), Check.BAD_LONG);
        CHECK.due("box -1", x.mean(3, -1, 0, 99, 0), Check.BAD_LONG);
        CHECK.due("from -1", x.mean(3, 0, -1, 99, 0), Check.BAD_LONG);
        CHECK.due("to 100", x.mean(3, 0, 0, 100, 0), Check.BAD_LONG);
        CHECK.due("from above to", x.mean(3, 0, 5, 4, 0), Check.BAD_LONG);
        CHECK.due("what 2", x.mean(3, 0, 0, 99, 2), Check.BAD_LONG);
        CHECK.due("what -1", x.mean(3, 0, 0, 99, -1), Check.BAD_LONG);
    }

    private static void did() {
        FormRoom x = new FormRoom();
        x.form(1, 0, 5, 1000 - 1, 3, 0);
        x.form(1, 0, 6, 10, 3, 0);
        x.form(1, 0, 9, 20, 3, 0);
        x.form(1, 0, 10, 7, 3, 0);
        x.form(1, 0, 13, 8, -1, 0);
        x.form(1, 0, 14, 999, 3, 0);
        CHECK.parts("less", x.did(1, 0, 10, 90, 0), x.did(1, 0, 10, 90, 1), -15, 2);
        CHECK.parts("alike", x.did(1, 1, 10, 90, 0), x.did(1, 1, 10, 90, 1), 0, 1);
        for (int y = 0; y < 20; y++) {
            boolean among = y >= 6 && y <= 13;
            CHECK.due("y " + y, x.did(1, 0, 10, y, 0), among ? Check.NOT_LONG : -15);
        }
        CHECK.due("nothing ahead", x.did(1, 0, 5, 90, 0), Check.NOT_LONG);
        CHECK.due("nothing behind", x.did(1, 0, 18, 90, 0), Check.NOT_LONG);
        x.asOf(9);
        CHECK.due("not known", x.did(1, 0, 10, 90, 0), Check.NOT_LONG);
        CHECK.due("kind 4", x.did(4, 0, 10, 90, 0), Check.BAD_LONG);
        CHECK.due("box 3", x.did(1, 3, 10, 90, 0), Check.BAD_LONG);
        CHECK.due("x 100", x.did(1, 0, 100, 90, 0), Check.BAD_LONG);
        CHECK.due("x -1", x.did(1, 0, -1, 90, 0), Check.BAD_LONG);
        CHECK.due("y 100", x.did(1, 0, 10, 100, 0), Check.BAD_LONG);
        CHECK.due("y -1", x.did(1, 0, 10, -1, 0), Check.BAD_LONG);
        CHECK.due("BAD ahead of NOT", x.did(1, 0, 10, 10, 2), Check.BAD_LONG);
        CHECK.due("what -1", x.did(1, 0, 10, 90, -1), Check.BAD_LONG);
    }

    private static void didAtTheEnds() {
        FormRoom x = new FormRoom();
        x.form(1, 0, 0, 5, 0, 0);
        x.form(1, 0, 1, 6, 0, 0);
        x.form(1, 0, 98, 5, 0, 0);
        x.form(1, 0, 99, 9, 0, 0);
        CHECK.parts("week 1", x.did(1, 0, 1, 90, 0), x.did(1, 0, 1, 90, 1), 1, 1);
        CHECK.due("week 0", x.did(1, 0, 0, 90, 0), Check.NOT_LONG);
        CHECK.parts("week 99", x.did(1, 0, 99, 0, 0), x.did(1, 0, 99, 0, 1), 4, 1);
    }

    private static void leans() {
        FormRoom x = new FormRoom();
        x.form(0, 3, 1, 10, 0, -1);
        CHECK.due("no others", x.leans(3, 0, 0, 0), Check.NOT_LONG);
        x.form(0, 4, 2, 1, 0, 3);
        x.form(0, 5, 2, 2, 0, 3);
        x.form(0, 5, 3, 4, 0, 3);
        x.form(1, 5, 3, 400, 0, 3);
        CHECK.parts("3", x.leans(3, 0, 0, 0), x.leans(3, 0, 0, 1), 23, 3);
        CHECK.parts("5", x.leans(5, 0, 0, 0), x.leans(5, 0, 0, 1), -5, 2);
        CHECK.parts("alike", x.leans(5, 0, 1, 0), x.leans(5, 0, 1, 1), 0, 1);
        CHECK.due("blank", x.leans(3, 0, 2, 0), Check.NOT_LONG);
        CHECK.due("no forms of it", x.leans(0, 0, 0, 0), Check.NOT_LONG);
        x.asOf(2);
        CHECK.parts("as of", x.leans(5, 0, 0, 0), x.leans(5, 0, 0, 1), -7, 2);
        CHECK.due("crew 8", x.leans(8, 0, 0, 0), Check.BAD_LONG);
        CHECK.due("crew -1", x.leans(-1, 0, 0, 0), Check.BAD_LONG);
        CHECK.due("kind 4", x.leans(0, 4, 0, 0), Check.BAD_LONG);
        CHECK.due("box 3", x.leans(0, 0, 3, 0), Check.BAD_LONG);
        CHECK.due("what 2", x.leans(0, 0, 0, 2), Check.BAD_LONG);
        CHECK.due("what -1", x.leans(0, 0, 0, -1), Check.BAD_LONG);
    }
}
