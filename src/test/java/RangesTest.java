import java.util.Arrays;
import java.util.Map;

/**
 * All promises: for each argument of each call the least and the greatest that is taken, the next one
 * on either side, which is BAD ahead of every other refusal, and that what is refused or only asked
 * changes nothing.
 */
public final class RangesTest {
    private static final Check CHECK = new Check();
    private static final int MIN = Integer.MIN_VALUE, MAX = Integer.MAX_VALUE;
    private static final int NULL = Check.NULL, INDEX = Check.INDEX, CAST = Check.CAST, STORE = Check.STORE;
    private static final int BAD = -2, NOT = -3, FULL = -4, SIZE = Check.SIZE;
    private static final int FINE = 0;

    private final String call;
    private final int[] base;
    private final int refusal;
    private final int[] ranges;

    /** With the ranges as least, greatest for each argument, while the others are as in the base. */
    private RangesTest(String call, int[] base, int refusal, int... ranges) {
        this.call = call;
        this.base = base;
        this.refusal = refusal;
        this.ranges = ranges;
    }

    public static void main(String[] args) {
        forms();
        texts();
        laws();
        sea();
        sailing();
        hours();
        sheets();
        items();
        CHECK.end();
    }

    private static void forms() {
        acts("form", a(1, 2, 3, 4, 5, 6), 0, 3, 0, 7, 0, 99, -1, 999, -1, 999, -1, 999);
        refused("form", a(1, 2, 3, 4, 5, 6), FULL, 0, 3, 0, 7, 0, 99, -1, 999, -1, 999, -1, 999);
        acts("read", a(0), 0, 3);
        refused("read", a(3), NULL, 0, 3);
        asks("about", a(1, 1), 0, 7, 0, 6);
        acts("fill", a(1, 1, 1), 0, 7, 0, 2, -1, 999);
        acts("asOf", a(5), 0, 99);
    }

    private static void texts() {
        acts("type", a(1, 'a'), 0, 4, 0, 255);
        refused("type", a(0, 'a'), FULL, 0, 4, 0, 255);
        refused("type", a(4, 'n'), FULL, 0, 4, 0, 255);
        acts("wipe", a(1), 0, 4);
        asks("fault", a(1), 0, 4);
        asks("asks", a(0, 0), 0, 1, 0, 7);
        refused("asks", a(1, 39), NOT, 0, 1, 0, 39);
        asks("counts", a(0, 0), 0, 1, 0, 1);
        refused("counts", a(1, 1), NOT, 0, 1, 0, 1);
        asks("share", a(0, 0), 0, 1, 0, 1);
        refused("share", a(1, 1), NOT, 0, 1, 0, 1);
    }

    private static void laws() {
        int[] least = {1, 1, 1, 1, 1, 1, 0};
        int[] most = {99, 999, 99, 99, 30, 30, 8};
        for (int which = 0; which < 7; which++) {
            acts("law", a(which, 5), 0, 6, least[which], most[which]);
        }
        asks("sinks", a(5, 5), 0, 999, 0, 999);
        asks("worth", a(5, 0), 0, 999, 0, 1);
        asks("depth", a());
    }

    private static void sea() {
        acts("sea", a(0, 1), 0, 1, 1, 33554431);
        acts("sea", a(1, 1), 0, 1, 0, 1);
        acts("habit", a(0, 5), 0, 2, 0, 9);
        asks("boat", a(0, 5, 5), 0, 2, 0, 24, 0, 99);
        asks("odds", a(0, 2, 0), 0, 3, 1, 6, 0, 1);
        asks("missed", a(0, 2, 0), 0, 3, 1, 6, 0, 2);
        int[] refusals = {NULL, INDEX, NOT};
        int[][] ladders = {{3, 1}, {0, 4}, {0, 2}};
        for (int i = 0; i < 3; i++) {
            refused("odds", a(ladders[i][0], ladders[i][1], 1), refusals[i], 0, 3, 1, 6, 0, 1);
            refused("missed", a(ladders[i][0], ladders[i][1], 2), refusals[i], 0, 3, 1, 6, 0, 2);
        }
        asks("ladder", a(12, 3, 1), 0, 24, 2, 5, 0, 2);
        acts("write", a(12, 3, 0), 0, 24, 1, 5, 0, 3);
        refused("write", a(12, 3, 3), NULL, 0, 24, 1, 5, 0, 3);
    }

    private static void sailing() {
        asks("losses", a(5, 50, 0), 1, 50, 5, 999, 0, 1);
        refused("losses", a(5, 50, 0), NOT, 1, 50, 5, 999, 0, 1);
        asks("size", a(5), 1, 9);
        asks("mean", a(1, 1, 10, 51, 0), 0, 3, 0, 2, 0, 51, 10, 99, 0, 1);
        refused("mean", a(1, 1, 10, 20, 1), NOT, 0, 3, 0, 2, 0, 20, 10, 99, 0, 1);
        asks("did", a(1, 1, 50, 90, 0), 0, 3, 0, 2, 0, 99, 0, 99, 0, 1);
        refused("did", a(1, 1, 50, 90, 0), NOT, 0, 3, 0, 2, 0, 99, 0, 99, 0, 1);
        refused("did", a(1, 1, 50, 50, 1), NOT, 0, 3, 0, 2, 0, 99, 0, 99, 0, 1);
        asks("leans", a(2, 1, 1, 0), 0, 7, 0, 3, 0, 2, 0, 1);
        refused("leans", a(2, 1, 1, 0), NOT, 0, 7, 0, 3, 0, 2, 0, 1);
    }

    private static void hours() {
        asks("hours", a(3, 5), 1, 8, 1, 20);
        asks("plan", a(3, 5, 2, 0), 1, 8, 3, 20, 0, 4, 0, 2);
        asks("waits", a(1, 0), 0, 3, 0, 1);
        refused("waits", a(3, 0), NULL, 0, 3, 0, 1);
        refused("waits", a(1, 1), NOT, 0, 3, 0, 1);
        asks("order", a(2, 10, 0), 0, 3, 1, 200, 0, 1);
        refused("order", a(3, 10, 0), NULL, 0, 3, 1, 200, 0, 1);
        refused("order", a(1, 10, 0), NOT, 0, 3, 1, 200, 0, 1);
        refused("order", a(2, 10, 1), FULL, 0, 3, 1, 200, 0, 1);
    }

    private static void sheets() {
        acts("sheet", a(0, 1, 5), 0, 3, 0, 2, MIN, 60);
        refused("sheet", a(0, 1, -1), SIZE, 0, 3, 0, 2, MIN, 60);
        acts("lose", a(0), 0, 3);
        refused("lose", a(3), NULL, 0, 3);
        asks("count", a(0), 0, 6);
        CHECK.due("count(8) is told", Rooms.lively(5).count(8), 5);
        new RangesTest("count", a(0), FINE, 0, 6).outside(0, 9);
        asks("digest", a());
    }

    private static void items() {
        acts("lay", a(0, 0, 0, 5), 0, 3, 0, 2, MIN, MAX, MIN, MAX);
        asks("get", a(0, 0, 0), 0, 3, 0, 2, MIN, MAX);
        int[] refusals = {NULL, CAST, INDEX, INDEX};
        int[][] wrong = {{3, 0, 0}, {0, 1, 9}, {0, 0, 3}, {0, 0, -1}};
        for (int i = 0; i < wrong.length; i++) {
            int[] w = wrong[i];
            refused("lay", a(w[0], w[1], w[2], 7), refusals[i], 0, 3, 0, 2, MIN, MAX, MIN, MAX);
            refused("get", w, refusals[i], 0, 3, 0, 2, MIN, MAX);
        }
        acts("copy", a(0, 0, 0, 1, 2), 0, 3, MIN, MAX, 0, 3, MIN, MAX, MIN, MAX);
        refused("copy", a(3, 0, 0, 0, 0), NULL, 0, 3, MIN, MAX, 0, 3, MIN, MAX, MIN, MAX);
        refused("copy", a(0, 0, 3, 0, 0), NULL, 0, 3, MIN, MAX, 0, 3, MIN, MAX, MIN, MAX);
        refused("copy", a(0, 0, 1, 0, 0), STORE, 0, 3, MIN, MAX, 0, 3, MIN, MAX, MIN, MAX);
        refused("copy", a(0, 1, 0, 0, 3), INDEX, 0, 3, MIN, MAX, 0, 3, MIN, MAX, MIN, MAX);
    }

    private static int[] a(int... arguments) {
        return arguments;
    }

    /** A call that is taken and may change the room. */
    private static void acts(String call, int[] base, int... ranges) {
        RangesTest row = new RangesTest(call, base, FINE, ranges);
        row.takenAtTheEnds();
        row.refusedBeyondTheEnds();
    }

    /** A call that is taken and changes nothing. */
    private static void asks(String call, int[] base, int... ranges) {
        acts(call, base, ranges);
        RangesTest row = new RangesTest(call, base, FINE, ranges);
        FormRoom asked = row.room();
        Face.ask(asked, call, base);
        Seen.alike(CHECK, row.told(base), Seen.of(asked), Seen.of(row.room()), row.findingBefore());
    }

    /** A call that is refused, in a troubled room, for something else than a BAD number. */
    private static void refused(String call, int[] base, int refusal, int... ranges) {
        RangesTest row = new RangesTest(call, base, refusal, ranges);
        row.refusedFor(base, refusal);
        row.refusedBeyondTheEnds();
    }

    private void takenAtTheEnds() {
        for (int i = 0; i < ranges.length; i++) {
            int[] end = base.clone();
            end[i / 2] = ranges[i];
            FormRoom room = room();
            long answer = Face.ask(room, call, end);
            // what gets an item tells BAD and a FINDING alike, but a FINDING is seen
            boolean found = call.equals("get") && room.count(8) != findingBefore();
            CHECK.holds(told(end) + " is not BAD", found || answer != Face.told(call, BAD));
        }
    }

    private void refusedBeyondTheEnds() {
        for (int i = 0; i < base.length; i++) {
            if (ranges[2 * i] > MIN) {
                outside(i, ranges[2 * i] - 1);
                outside(i, MIN);
            }
            if (ranges[2 * i + 1] < MAX) {
                outside(i, ranges[2 * i + 1] + 1);
                outside(i, MAX);
            }
        }
    }

    private void outside(int i, int v) {
        int[] beyond = base.clone();
        beyond[i] = v;
        refusedFor(beyond, BAD);
    }

    private void refusedFor(int[] arguments, int due) {
        FormRoom asked = room();
        CHECK.due(told(arguments), Face.ask(asked, call, arguments), Face.told(call, due));
        Map<String, Long> before = Seen.of(room());
        Seen.alike(CHECK, told(arguments), Seen.of(asked), before, due <= NULL ? -10 - due : findingBefore());
    }

    /** Some other FINDING than the one that is due. */
    private int findingBefore() {
        return refusal == SIZE ? 1 : 5;
    }

    private FormRoom room() {
        return refusal == FINE ? Rooms.lively(findingBefore()) : Rooms.troubled(findingBefore());
    }

    private String told(int[] arguments) {
        return call + Arrays.toString(arguments).replace('[', '(').replace(']', ')');
    }
}
