/** Promises 1 to 6: a new object, form, read, about, fill, asOf. */
public final class FormsTest {
    private static final Check CHECK = new Check();

    public static void main(String[] args) {
        newObject();
        form();
        formsAreFull();
        read();
        about();
        fill();
        asOf();
        CHECK.end();
    }

    private static void newObject() {
        FormRoom x = new FormRoom();
        int[] due = {0, 0, 0, 99, 33554431, 0, 0, -2, 0};
        for (int what = 0; what < due.length; what++) {
            CHECK.due("new count(" + what + ")", x.count(what), due[what]);
        }
        for (int s = 0; s < 4; s++) {
            CHECK.due("new lose(" + s + ")", x.lose(s), Check.NULL);
        }
        for (int text = 0; text < 5; text++) {
            CHECK.due("new fault(" + text + ")", x.fault(text), text < 2 ? 0 : -1);
            CHECK.due("new wipe(" + text + ")", x.wipe(text), 0);
        }
        int[] lots = {1, 0, 0};
        for (int habit = 0; habit < 3; habit++) {
            CHECK.due("new habit(" + habit + ")", x.habit(habit, 5), lots[habit]);
        }
        int[] laws = {20, 300, 30, 20, 2, 3, 2};
        for (int which = 0; which < 7; which++) {
            CHECK.due("new law(" + which + ")", x.law(which, 5), laws[which]);
        }
        CHECK.due("new about", x.about(0, 0), -2);
    }

    private static void form() {
        FormRoom x = new FormRoom();
        int[] least = {0, 0, 0, -1, -1, -1};
        int[] most = {3, 7, 99, 999, 999, 999};
        CHECK.due("least", lay(x, least), 0);
        CHECK.due("most", lay(x, most), 1);
        for (int i = 0; i < 6; i++) {
            int[] below = least.clone();
            below[i]--;
            int[] above = most.clone();
            above[i]++;
            CHECK.due("below " + i, lay(x, below), -2);
            CHECK.due("above " + i, lay(x, above), -2);
        }
        CHECK.due("count", x.count(0), 2);
    }

    private static int lay(FormRoom x, int[] e) {
        return x.form(e[0], e[1], e[2], e[3], e[4], e[5]);
    }

    private static void formsAreFull() {
        FormRoom x = new FormRoom();
        for (int i = 0; i < 40; i++) {
            CHECK.due("form " + i, x.form(0, 0, i, i, i, i), i);
        }
        CHECK.due("the 41st", x.form(0, 0, 0, 0, 0, 0), -4);
        CHECK.due("BAD ahead of FULL", x.form(4, 0, 0, 0, 0, 0), -2);
        CHECK.due("count", x.count(0), 40);
        CHECK.due("the last", x.about(39, 2), 39);
        x.sheet(0, 2, 6);
        CHECK.due("read when full", x.read(0), 0);
    }

    private static void read() {
        FormRoom x = new FormRoom();
        CHECK.due("LOST", x.read(0), Check.NULL);
        CHECK.due("finding", x.count(8), 1);
        CHECK.due("no SHEET", x.read(4), -2);
        CHECK.due("no SHEET", x.read(-1), -2);
        Check.lay(x, 1, 0, 1, 2, 3, 4, 5, -1, 0, 7, 99, 127, -1, 0, 3, 3, 3, 3, 3);
        CHECK.due("two and five items", x.read(1), 2);
        int[] due = {0, 7, 99, 127, -1, 0, 1};
        for (int what = 0; what < 7; what++) {
            CHECK.due("read about " + what, x.about(1, what), due[what]);
        }
        Check.lay(x, 1, 1, 0, 0, 0, 0, 0, 0, 0, 0, 100, 0, 0, 0, 0, 0, 0, 0, 0, 0);
        CHECK.due("up to the one that may not be", x.read(1), 1);
        Check.lay(x, 1, 2);
        CHECK.due("empty", x.read(1), 0);
        x.sheet(1, 2, 60);
        CHECK.due("ten", x.read(1), 10);
        x.read(1);
        x.read(1);
        CHECK.due("until full", x.read(1), 7);
        CHECK.due("full", x.count(0), 40);
    }

    private static void about() {
        FormRoom x = new FormRoom();
        x.form(2, 5, 50, 10, -1, 999);
        int[] due = {2, 5, 50, 10, -1, 999, 1};
        for (int what = 0; what < 7; what++) {
            CHECK.due("about " + what, x.about(0, what), due[what]);
        }
        CHECK.due("what 7", x.about(0, 7), -2);
        CHECK.due("what -1", x.about(0, -1), -2);
        CHECK.due("form 1", x.about(1, 0), -2);
        CHECK.due("form -1", x.about(-1, 0), -2);
        x.asOf(50);
        CHECK.due("known in its week", x.about(0, 6), 1);
        x.asOf(49);
        CHECK.due("not known ahead of it", x.about(0, 6), 0);
        CHECK.due("told all the same", x.about(0, 3), 10);
    }

    private static void fill() {
        FormRoom x = new FormRoom();
        x.form(0, 0, 9, 1, 2, -1);
        CHECK.due("a", x.fill(0, 0, 999), 1);
        CHECK.due("b", x.fill(0, 1, -1), 2);
        CHECK.due("c", x.fill(0, 2, 0), -1);
        CHECK.due("a is", x.about(0, 3), 999);
        CHECK.due("b is", x.about(0, 4), -1);
        CHECK.due("c is", x.about(0, 5), 0);
        CHECK.due("box 3", x.fill(0, 3, 1), -2);
        CHECK.due("box -1", x.fill(0, -1, 1), -2);
        CHECK.due("1000", x.fill(0, 0, 1000), -2);
        CHECK.due("-2", x.fill(0, 0, -2), -2);
        CHECK.due("no form", x.fill(1, 0, 1), -2);
        CHECK.due("no form", x.fill(-1, 0, 1), -2);
        x.asOf(0);
        CHECK.due("one that is not known", x.fill(0, 0, 7), 999);
    }

    private static void asOf() {
        FormRoom x = new FormRoom();
        CHECK.due("0", x.asOf(0), 99);
        CHECK.due("100", x.asOf(100), -2);
        CHECK.due("-1", x.asOf(-1), -2);
        CHECK.due("99", x.asOf(99), 0);
        CHECK.due("count 3", x.count(3), 99);
    }
}
