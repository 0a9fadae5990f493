import java.util.Random;

/** All promises: runs of calls with any arguments, each answer against that of PlainRoom. */
public final class RandomRunsTest {
    private static final Check CHECK = new Check();
    private static final String[] NAMES = {"form", "read", "about", "fill", "asOf", "type", "wipe", "fault", "asks",
        "counts", "share", "law", "sinks", "worth", "depth", "sea", "habit", "boat", "odds", "missed", "ladder",
        "losses", "size", "mean", "did", "leans", "hours", "plan", "waits", "order", "sheet", "lose", "lay", "get",
        "copy", "write", "count", "digest"};
    private static final int[] WILD = {Integer.MIN_VALUE, Integer.MIN_VALUE + 1, -1000, -2, -1, 0, 1, 2, 3, 4, 5, 7, 8,
        9, 10, 12, 20, 21, 24, 25, 40, 60, 61, 99, 100, 127, 128, 200, 201, 255, 256, 999, 1000, 33554431, 33554432,
        Integer.MAX_VALUE - 1, Integer.MAX_VALUE};

    private final Random random;
    private final FormRoom room = new FormRoom();
    private final PlainRoom plain = new PlainRoom();
    private String call = "";
    private int calls = 0;

    private RandomRunsTest(long seed) {
        random = new Random(seed);
    }

    public static void main(String[] args) {
        int runs = args.length > 0 ? Integer.parseInt(args[0]) : 600;
        for (int run = 0; run < runs; run++) {
            new RandomRunsTest(run).run(run);
        }
        CHECK.end();
    }

    private void run(int run) {
        // a run keeps to some calls, so that each state is gone deep into
        int theme = run % 6;
        // a room is good for 512 calls, of which one step here may need 62 and the end nine
        for (int i = 0; calls < 440; i++) {
            int which = i % 40 == 39 ? 37 : pick(theme);
            long[] answers = ask(which);
            CHECK.due("run " + run + ", call " + i + ": " + call, answers[0], answers[1]);
        }
        for (int what = 0; what < 9; what++) {
            CHECK.due("run " + run + ", count(" + what + ") at the end", room.count(what), plain.count(what));
        }
    }

    private int pick(int theme) {
        int[][] themes = {
            {0, 0, 0, 1, 2, 3, 3, 4, 5, 39, 39, 39, 6, 7, 8, 8, 9, 9, 10, 10, 10},
            {0, 0, 3, 3, 4, 11, 11, 12, 13, 13, 14},
            {5, 39, 6, 15, 15, 16, 16, 17, 17, 18, 18, 18, 19, 19, 20, 20, 40, 40, 35, 33},
            {0, 0, 0, 3, 4, 21, 21, 22, 22, 23, 23, 24, 24, 24, 25, 25},
            {11, 26, 27, 27, 28, 28, 29, 29, 40, 40, 30},
            {30, 31, 32, 32, 32, 33, 33, 34, 34, 34, 35, 36, 1, 40}};
        if (random.nextInt(10) == 0) {
            return random.nextInt(38);
        }
        return themes[theme][random.nextInt(themes[theme].length)];
    }

    /** Mostly a number that may be, now and then one at the edge or beyond it. */
    private int some(int least, int most) {
        int way = random.nextInt(40);
        if (way == 0) {
            return WILD[random.nextInt(WILD.length)];
        }
        if (way == 1) {
            return random.nextBoolean() ? least - 1 : most + 1;
        }
        if (way < 6) {
            return random.nextBoolean() ? least : most;
        }
        return least + random.nextInt(most - least + 1);
    }

    private int box() {
        int way = random.nextInt(10);
        if (way < 2) {
            return -1;
        }
        if (way < 8) {
            return some(0, 60);
        }
        return some(0, 999);
    }

    private int week() {
        return random.nextInt(3) == 0 ? some(0, 99) : some(40, 60);
    }

    private long[] ask(int which) {
        if (which == 39) {
            return typeText();
        }
        if (which == 40) {
            return laySheet();
        }
        int[] a = arguments(which);
        StringBuilder told = new StringBuilder(NAMES[which]).append('(');
        for (int i = 0; i < a.length; i++) {
            told.append(i == 0 ? "" : ", ").append(a[i]);
        }
        call = told.append(')').toString();
        return which < 21 ? askFirst(which, a) : askSecond(which, a);
    }

    private int[] arguments(int which) {
        switch (NAMES[which]) {
            case "form":
                return new int[] {some(0, 3), some(0, 7), week(), box(), box(), box()};
            case "read":
            case "lose":
                return new int[] {some(0, 3)};
            case "about":
                return new int[] {some(0, lastForm()), some(0, 6)};
            case "fill":
                return new int[] {some(0, lastForm()), some(0, 2), box()};
            case "asOf":
                return new int[] {random.nextInt(3) == 0 ? 99 : week()};
            case "type":
                return new int[] {some(0, 4), random.nextBoolean() ? some(0, 255) : "nesw."
                    .charAt(random.nextInt(5))};
            case "wipe":
            case "fault":
                return new int[] {some(0, 4)};
            case "asks":
                return new int[] {some(0, 1), some(0, lastForm())};
            case "counts":
            case "share":
                return new int[] {some(0, 1), some(0, 1)};
            case "law":
                int law = some(0, 6);
                return new int[] {law, law == 1 ? some(1, 999) : law == 6 ? some(0, 8) : law > 3 ? some(1, 30)
                    : some(1, 99)};
            case "sinks":
                return new int[] {some(0, 400), random.nextBoolean() ? some(0, 150) : some(0, 999)};
            case "worth":
                return new int[] {some(0, 400), some(0, 1)};
            case "sea":
                int what = some(0, 1);
                return new int[] {what, what == 1 ? some(0, 1) : some(1, 33554431) | some(1, 33554431)};
            case "habit":
                return new int[] {some(0, 2), some(0, 9)};
            case "boat":
                return new int[] {some(0, 2), some(0, 24), some(0, 99)};
            case "odds":
                return new int[] {some(0, 3), some(1, 6), some(0, 1)};
            case "missed":
                return new int[] {some(0, 3), some(1, 6), some(0, 2)};
            case "ladder":
                int h = some(1, 5);
                return new int[] {some(0, 24), h, some(0, Math.min(4, Math.max(0, h - 1)))};
            default:
                return laterArguments(which);
        }
    }

    private int lastForm() {
        calls++;
        return Math.max(0, room.count(0) - 1);
    }

    private int[] laterArguments(int which) {
        switch (NAMES[which]) {
            case "losses":
                int from = some(1, 70);
                return new int[] {from, some(Math.max(1, Math.min(from, 900)), 999), some(0, 1)};
            case "size":
                return new int[] {random.nextBoolean() ? 1 : some(1, 9)};
            case "mean":
                return new int[] {some(0, 3), some(0, 2), some(0, 50), some(50, 99), some(0, 1)};
            case "did":
                return new int[] {some(0, 3), some(0, 2), week(), week(), some(0, 1)};
            case "leans":
                return new int[] {some(0, 7), some(0, 3), some(0, 2), some(0, 1)};
            case "hours":
                return new int[] {some(1, 8), some(1, 20)};
            case "plan":
                int weeks = some(1, 20);
                return new int[] {some(1, 8), weeks, some(0, Math.min(20, Math.max(0, weeks - 1))), some(0, 2)};
            case "waits":
                return new int[] {some(0, 3), some(0, 1)};
            case "order":
                return new int[] {some(0, 3), random.nextBoolean() ? some(1, 40) : some(1, 200), some(0, 1)};
            case "sheet":
                return new int[] {some(0, 3), some(0, 2), random.nextBoolean() ? some(0, 12) : some(0, 60)};
            case "lay":
                return new int[] {some(0, 3), some(0, 2), some(0, 12),
                    random.nextBoolean() ? random.nextInt() : some(0, 24)};
            case "get":
                return new int[] {some(0, 3), some(0, 2), some(0, 12)};
            case "copy":
                return new int[] {some(0, 3), some(0, 6), some(0, 3), some(0, 6), some(0, 6)};
            case "write":
                return new int[] {some(0, 24), some(1, 5), some(0, 3)};
            case "count":
                return new int[] {some(0, 8)};
            default:
                return new int[0];
        }
    }

    private long[] askFirst(int which, int[] a) {
        switch (NAMES[which]) {
            case "form":
                return both(room.form(a[0], a[1], a[2], a[3], a[4], a[5]), plain.form(a));
            case "read":
                return both(room.read(a[0]), plain.read(a[0]));
            case "about":
                return both(room.about(a[0], a[1]), plain.about(a[0], a[1]));
            case "fill":
                return both(room.fill(a[0], a[1], a[2]), plain.fill(a[0], a[1], a[2]));
            case "asOf":
                return both(room.asOf(a[0]), plain.asOf(a[0]));
            case "type":
                return both(room.type(a[0], a[1]), plain.type(a[0], a[1]));
            case "wipe":
                return both(room.wipe(a[0]), plain.wipe(a[0]));
            case "fault":
                return both(room.fault(a[0]), plain.fault(a[0]));
            case "asks":
                return both(room.asks(a[0], a[1]), plain.asks(a[0], a[1]));
            case "counts":
                return both(room.counts(a[0], a[1]), plain.counts(a[0], a[1]));
            case "share":
                return both(room.share(a[0], a[1]), plain.share(a[0], a[1]));
            case "law":
                return both(room.law(a[0], a[1]), plain.law(a[0], a[1]));
            case "sinks":
                return both(room.sinks(a[0], a[1]), plain.sinks(a[0], a[1]));
            case "worth":
                return both(room.worth(a[0], a[1]), plain.worth(a[0], a[1]));
            case "depth":
                return both(room.depth(), plain.depth());
            case "sea":
                return both(room.sea(a[0], a[1]), plain.sea(a[0], a[1]));
            case "habit":
                return both(room.habit(a[0], a[1]), plain.habit(a[0], a[1]));
            case "boat":
                return both(room.boat(a[0], a[1], a[2]), plain.boat(a[0], a[1], a[2]));
            case "odds":
                return both(room.odds(a[0], a[1], a[2]), plain.odds(a[0], a[1], a[2]));
            case "missed":
                return both(room.missed(a[0], a[1], a[2]), plain.missed(a[0], a[1], a[2]));
            default:
                return both(room.ladder(a[0], a[1], a[2]), plain.ladder(a[0], a[1], a[2]));
        }
    }

    private long[] askSecond(int which, int[] a) {
        switch (NAMES[which]) {
            case "losses":
                return both(room.losses(a[0], a[1], a[2]), plain.losses(a[0], a[1], a[2]));
            case "size":
                return both(room.size(a[0]), plain.size(a[0]));
            case "mean":
                return both(room.mean(a[0], a[1], a[2], a[3], a[4]), plain.mean(a[0], a[1], a[2], a[3], a[4]));
            case "did":
                return both(room.did(a[0], a[1], a[2], a[3], a[4]), plain.did(a[0], a[1], a[2], a[3], a[4]));
            case "leans":
                return both(room.leans(a[0], a[1], a[2], a[3]), plain.leans(a[0], a[1], a[2], a[3]));
            case "hours":
                return both(room.hours(a[0], a[1]), plain.hours(a[0], a[1]));
            case "plan":
                return both(room.plan(a[0], a[1], a[2], a[3]), plain.plan(a[0], a[1], a[2], a[3]));
            case "waits":
                return both(room.waits(a[0], a[1]), plain.waits(a[0], a[1]));
            case "order":
                return both(room.order(a[0], a[1], a[2]), plain.order(a[0], a[1], a[2]));
            case "sheet":
                return both(room.sheet(a[0], a[1], a[2]), plain.sheet(a[0], a[1], a[2]));
            case "lose":
                return both(room.lose(a[0]), plain.lose(a[0]));
            case "lay":
                return both(room.lay(a[0], a[1], a[2], a[3]), plain.lay(a[0], a[1], a[2], a[3]));
            case "get":
                return both(room.get(a[0], a[1], a[2]), plain.get(a[0], a[1], a[2]));
            case "copy":
                return both(room.copy(a[0], a[1], a[2], a[3], a[4]), plain.copy(a[0], a[1], a[2], a[3], a[4]));
            case "write":
                return both(room.write(a[0], a[1], a[2]), plain.write(a[0], a[1], a[2]));
            case "count":
                return both(room.count(a[0]), plain.count(a[0]));
            default:
                return both(room.digest(), plain.digest());
        }
    }

    private long[] both(long got, long want) {
        calls++;
        return new long[] {got, want};
    }

    /** A text that mostly goes on, typed into both; the answer of the last byte. */
    private long[] typeText() {
        int text = random.nextInt(5);
        StringBuilder bytes = new StringBuilder();
        int parts = random.nextInt(text < 2 ? 6 : 12) + 1;
        for (int i = 0; i < parts; i++) {
            if (text >= 2) {
                bytes.append("nesw.".charAt(random.nextInt(5)));
            } else {
                bytes.append(i == 0 ? "" : random.nextBoolean() ? "&" : "|").append(test());
            }
        }
        if (random.nextInt(6) == 0) {
            bytes.setCharAt(random.nextInt(bytes.length()), "krwabc<=>0123456789&|ne?".charAt(random.nextInt(24)));
        }
        if (random.nextInt(6) == 0) {
            bytes.setLength(random.nextInt(bytes.length()) + 1);
        }
        call = "type(" + text + ", " + bytes + ")";
        long[] answers = both(room.wipe(text), plain.wipe(text));
        for (int i = 0; i < bytes.length() && answers[0] == answers[1]; i++) {
            answers = both(room.type(text, bytes.charAt(i)), plain.type(text, bytes.charAt(i)));
        }
        return answers[0] == answers[1] ? both(room.fault(text), plain.fault(text)) : answers;
    }

    private String test() {
        char letter = "krwabcabcabc".charAt(random.nextInt(12));
        int most = letter == 'k' ? 4 : letter == 'r' ? 8 : letter == 'w' ? 100 : 61;
        return "" + letter + "<=>".charAt(random.nextInt(3)) + random.nextInt(most);
    }

    /** A sheet of cells, minutes or pairs, laid into both; the answer of the last item. */
    private long[] laySheet() {
        int s = random.nextInt(4);
        int format = random.nextInt(3);
        int sort = random.nextInt(3);
        int n = random.nextInt(sort == 1 ? 61 : 13);
        call = "sheet(" + s + ", " + format + ", " + n + ") of sort " + sort;
        long[] answers = both(room.sheet(s, format, n), plain.sheet(s, format, n));
        int minute = 0;
        for (int i = 0; i < n && answers[0] == answers[1]; i++) {
            minute += random.nextInt(5);
            int v = sort == 0 ? random.nextInt(25) : sort == 1 ? minute
                : i % 2 == 0 ? 1 + random.nextInt(20) : random.nextInt(100);
            answers = both(room.lay(s, format, i, v), plain.lay(s, format, i, v));
        }
        return answers;
    }
}
