import java.util.ArrayList;
import java.util.HashMap;
import java.util.List;
import java.util.Map;

/**
 * A second reading of the document for RandomRunsTest: slow, by going through all that can be, and
 * sharing nothing with FormRoom but the document.
 */
final class PlainRoom {
    private static final String TEST = "[krwabc][<=>][0-9]{1,3}";

    private final List<int[]> forms = new ArrayList<>();
    private final StringBuilder[] texts = new StringBuilder[5];
    private final int[] laws = {20, 300, 30, 20, 2, 3, 2};
    private final int[] lots = {1, 0, 0};
    private final Number[][] sheets = new Number[4][];
    private final int[] formats = new int[4];
    private int asOf = 99;
    private int start = 33554431;
    private int wide = 0;
    private int finding = 0;
    /** What flights() has found, as long as SHEDS are the same. */
    private final Map<Integer, Integer> seen = new HashMap<>();

    PlainRoom() {
        for (int i = 0; i < 5; i++) {
            texts[i] = new StringBuilder();
        }
    }

    private static boolean in(int v, int least, int most) {
        return least <= v && v <= most;
    }

    private int find(int number) {
        finding = number;
        return -10 - number;
    }

    private static long wideRefusal(int refusal) {
        return Long.MIN_VALUE + -refusal;
    }

    private static long told(long above, long below, int what) {
        if (below == 0 || above == 0) {
            return what;
        }
        java.math.BigInteger divisor = java.math.BigInteger.valueOf(above).gcd(java.math.BigInteger.valueOf(below));
        return (what == 0 ? above : below) / divisor.longValue();
    }

    // ---- forms, questions

    int form(int... e) {
        if (!in(e[0], 0, 3) || !in(e[1], 0, 7) || !in(e[2], 0, 99)) {
            return -2;
        }
        for (int i = 3; i < 6; i++) {
            if (!in(e[i], -1, 999)) {
                return -2;
            }
        }
        if (forms.size() == 40) {
            return -4;
        }
        forms.add(e.clone());
        return forms.size() - 1;
    }

    int read(int s) {
        if (!in(s, 0, 3)) {
            return -2;
        }
        if (sheets[s] == null) {
            return find(1);
        }
        int before = forms.size();
        for (int at = 0; sheets[s].length - at >= 6; at += 6) {
            int[] e = new int[6];
            for (int i = 0; i < 6; i++) {
                e[i] = sheets[s][at + i].intValue();
            }
            if (form(e) < 0) {
                break;
            }
        }
        return forms.size() - before;
    }

    private boolean isForm(int form) {
        return form >= 0 && form < forms.size();
    }

    private List<int[]> known() {
        List<int[]> known = new ArrayList<>();
        for (int[] e : forms) {
            if (e[2] <= asOf) {
                known.add(e);
            }
        }
        return known;
    }

    int about(int form, int what) {
        if (!isForm(form) || !in(what, 0, 6)) {
            return -2;
        }
        return what < 6 ? forms.get(form)[what] : known().contains(forms.get(form)) ? 1 : 0;
    }

    int fill(int form, int box, int v) {
        if (!isForm(form) || !in(box, 0, 2) || !in(v, -1, 999)) {
            return -2;
        }
        int was = forms.get(form)[3 + box];
        forms.get(form)[3 + box] = v;
        return was;
    }

    int asOf(int week) {
        if (!in(week, 0, 99)) {
            return -2;
        }
        int was = asOf;
        asOf = week;
        return was;
    }

    int type(int text, int b) {
        if (!in(text, 0, 4) || !in(b, 0, 255)) {
            return -2;
        }
        if (texts[text].length() == (text < 2 ? 60 : 12)) {
            return -4;
        }
        return texts[text].append((char) b).length();
    }

    int wipe(int text) {
        if (!in(text, 0, 4)) {
            return -2;
        }
        int had = texts[text].length();
        texts[text] = new StringBuilder();
        return had;
    }

    int fault(int text) {
        if (!in(text, 0, 4)) {
            return -2;
        }
        String whole = texts[text].toString();
        String goesOn = text < 2 ? "(" + TEST + "[&|])*([krwabc]?|[krwabc][<=>]|" + TEST + ")" : "[nesw.]*";
        for (int i = 0; i < whole.length(); i++) {
            if (!whole.substring(0, i + 1).matches("(?s)" + goesOn)) {
                return i;
            }
        }
        boolean ends = text >= 2 || whole.matches(TEST + "([&|]" + TEST + ")*");
        return ends ? -1 : whole.length();
    }

    private int answer(int question, int[] e) {
        boolean open = false;
        for (String alternative : texts[question].toString().split("\\|")) {
            boolean no = false;
            boolean maybe = false;
            for (String test : alternative.split("&")) {
                int v = e["krwabc".indexOf(test.charAt(0))];
                int n = Integer.parseInt(test.substring(2));
                boolean holds = test.charAt(1) == '<' ? v < n : test.charAt(1) == '=' ? v == n : v > n;
                maybe |= v == -1;
                no |= v != -1 && !holds;
            }
            if (!no && !maybe) {
                return 1;
            }
            open |= !no;
        }
        return open ? 2 : 0;
    }

    int asks(int question, int form) {
        if (!in(question, 0, 1) || !isForm(form)) {
            return -2;
        }
        return fault(question) >= 0 ? -3 : answer(question, forms.get(form));
    }

    int counts(int question, int what) {
        if (!in(question, 0, 1) || !in(what, 0, 1)) {
            return -2;
        }
        if (fault(question) >= 0) {
            return -3;
        }
        int n = 0;
        for (int[] e : known()) {
            n += answer(question, e) == what + 1 ? 1 : 0;
        }
        return n;
    }

    /** Goes through how many of each sort of form are taken as yes. */
    long share(int end, int what) {
        if (!in(end, 0, 1) || !in(what, 0, 1)) {
            return wideRefusal(-2);
        }
        if (fault(0) >= 0 || fault(1) >= 0) {
            return wideRefusal(-3);
        }
        int[][] n = new int[3][3];
        for (int[] e : known()) {
            n[answer(0, e)][answer(1, e)]++;
        }
        long bestAbove = -1;
        long bestBelow = 1;
        for (int sureOpen = 0; sureOpen <= n[1][2]; sureOpen++) {
            for (int openYes = 0; openYes <= n[2][1]; openYes++) {
                for (int openNo = 0; openNo <= n[2][0]; openNo++) {
                    for (int bothOpen = 0; bothOpen <= n[2][2]; bothOpen++) {
                        for (int bothYes = 0; bothYes <= bothOpen; bothYes++) {
                            long above = n[1][1] + sureOpen + openYes + bothYes;
                            long below = n[1][0] + n[1][1] + n[1][2] + openYes + openNo + bothOpen;
                            below = Math.max(1, below);
                            long more = above * bestBelow - bestAbove * below;
                            if (bestAbove < 0 || (end == 0 ? more < 0 : more > 0)) {
                                bestAbove = above;
                                bestBelow = below;
                            }
                        }
                    }
                }
            }
        }
        return told(bestAbove, bestBelow, what);
    }

    // ---- depths

    int law(int which, int v) {
        int[] most = {99, 999, 99, 99, 30, 30, 8};
        if (!in(which, 0, 6) || !in(v, which == 6 ? 0 : 1, most[which])) {
            return -2;
        }
        int was = laws[which];
        laws[which] = v;
        seen.clear();
        return was;
    }

    int sinks(int x, int s) {
        if (!in(x, 0, 999) || !in(s, 0, 999)) {
            return -2;
        }
        int deep = s * laws[0] / 10;
        if (deep > laws[1]) {
            deep = laws[1];
        }
        long spread = s * laws[2] / 10;
        if (spread < laws[3]) {
            spread = laws[3];
        }
        boolean near = in(x, deep - laws[3], deep + laws[3]);
        return near ? (int) ((long) laws[3] * laws[3] * 1000000L / (spread * spread)) : 0;
    }

    int worth(int x, int end) {
        if (!in(x, 0, 999) || !in(end, 0, 1)) {
            return -2;
        }
        int sum = 0;
        for (int[] e : known()) {
            if (e[0] == 1) {
                int best = sinks(x, e[3] == -1 ? 0 : e[3]);
                for (int s = 0; e[3] == -1 && s <= 120; s++) {
                    int v = sinks(x, s);
                    best = end == 0 ? Math.min(best, v) : Math.max(best, v);
                }
                sum += best;
            }
        }
        return sum;
    }

    int depth() {
        int best = 300;
        for (int x = 300; x >= 0; x -= 25) {
            if (worth(x, 0) >= worth(best, 0)) {
                best = x;
            }
        }
        return best;
    }

    // ---- searching

    int sea(int what, int v) {
        if (what == 0 ? !in(v, 1, 33554431) : what != 1 || !in(v, 0, 1)) {
            return -2;
        }
        int was = what == 0 ? start : wide;
        start = what == 0 ? v : start;
        wide = what == 1 ? v : wide;
        return was;
    }

    int habit(int habit, int lot) {
        if (!in(habit, 0, 2) || !in(lot, 0, 9)) {
            return -2;
        }
        int was = lots[habit];
        lots[habit] = lot;
        return was;
    }

    int boat(int habit, int cell, int hour) {
        if (!in(habit, 0, 2) || !in(cell, 0, 24) || !in(hour, 0, 99)) {
            return -2;
        }
        String moves = texts[habit + 2].toString();
        if (moves.isEmpty() || fault(habit + 2) >= 0) {
            return cell;
        }
        int y = cell / 5;
        int x = cell % 5;
        for (int t = 0; t < hour; t++) {
            char move = moves.charAt(t % moves.length());
            y = Math.min(4, Math.max(0, y + (move == 's' ? 1 : move == 'n' ? -1 : 0)));
            x = Math.min(4, Math.max(0, x + (move == 'e' ? 1 : move == 'w' ? -1 : 0)));
        }
        return 5 * y + x;
    }

    private int distance(int one, int other) {
        return Math.abs(one / 5 - other / 5) + Math.abs(one % 5 - other % 5);
    }

    /** By habit, cell and hour, so that the boats are not followed anew for each row. */
    private int[][][] ways() {
        int[][][] ways = new int[3][25][6];
        for (int habit = 0; habit < 3; habit++) {
            for (int cell = 0; cell < 25; cell++) {
                for (int hour = 0; hour < 6; hour++) {
                    ways[habit][cell][hour] = boat(habit, cell, hour);
                }
            }
        }
        return ways;
    }

    private boolean finds(List<Integer> row, int[] way) {
        for (int hour = 0; hour < row.size(); hour++) {
            if (distance(row.get(hour), way[hour]) <= wide) {
                return true;
            }
        }
        return false;
    }

    private int lotsFound(List<Integer> row, int[][][] ways) {
        int found = 0;
        for (int habit = 0; habit < 3; habit++) {
            for (int cell = 0; cell < 25; cell++) {
                if ((start >> cell & 1) == 1 && finds(row, ways[habit][cell])) {
                    found += lots[habit];
                }
            }
        }
        return found;
    }

    private int ladderRefusal(int s, int h) {
        if (!in(s, 0, 3) || !in(h, 1, 6)) {
            return -2;
        }
        if (sheets[s] == null) {
            return find(1);
        }
        if (sheets[s].length < h) {
            return find(2);
        }
        for (int i = 0; i < h; i++) {
            if (!in(sheets[s][i].intValue(), 0, 24)) {
                return -3;
            }
        }
        return 0;
    }

    private List<Integer> rowOf(int s, int h) {
        List<Integer> row = new ArrayList<>();
        for (int i = 0; i < h; i++) {
            row.add(sheets[s][i].intValue());
        }
        return row;
    }

    long odds(int s, int h, int what) {
        if (!in(what, 0, 1)) {
            return wideRefusal(-2);
        }
        int refusal = ladderRefusal(s, h);
        if (refusal != 0) {
            return wideRefusal(refusal);
        }
        int all = 0;
        for (int cell = 0; cell < 25; cell++) {
            all += (start >> cell & 1) * (lots[0] + lots[1] + lots[2]);
        }
        return told(lotsFound(rowOf(s, h), ways()), all, what);
    }

    int missed(int s, int h, int habit) {
        if (!in(habit, 0, 2)) {
            return -2;
        }
        int refusal = ladderRefusal(s, h);
        if (refusal != 0) {
            return refusal;
        }
        int bits = 0;
        for (int cell = 0; cell < 25; cell++) {
            if ((start >> cell & 1) == 1 && !finds(rowOf(s, h), ways()[habit][cell])) {
                bits += 1 << cell;
            }
        }
        return bits;
    }

    private List<List<Integer>> rows(int base, int h) {
        List<List<Integer>> rows = new ArrayList<>();
        if (h == 1) {
            rows.add(List.of(base));
            return rows;
        }
        for (int next = 0; next < 25; next++) {
            if (distance(base, next) <= 1) {
                for (List<Integer> rest : rows(next, h - 1)) {
                    List<Integer> row = new ArrayList<>(List.of(base));
                    row.addAll(rest);
                    rows.add(row);
                }
            }
        }
        return rows;
    }

    private List<Integer> best(int base, int h) {
        List<Integer> best = null;
        int most = -1;
        int[][][] ways = ways();
        for (List<Integer> row : rows(base, h)) {
            int found = lotsFound(row, ways);
            if (found > most || found == most && less(row, best)) {
                most = found;
                best = row;
            }
        }
        return best;
    }

    private static boolean less(List<Integer> one, List<Integer> other) {
        for (int i = 0; i < one.size(); i++) {
            if (!one.get(i).equals(other.get(i))) {
                return one.get(i) < other.get(i);
            }
        }
        return false;
    }

    int ladder(int base, int h, int i) {
        if (!in(base, 0, 24) || !in(h, 1, 5) || i < 0 || i >= h) {
            return -2;
        }
        return best(base, h).get(i);
    }

    // ---- sailing, changes, crews

    /** Lost, sailed, how many forms. */
    private int[] lost(int from, int to) {
        int[] sum = new int[3];
        for (int[] e : known()) {
            boolean aside = e[3] == -1 || e[4] == -1 || e[4] > e[3];
            if (e[0] == 2 && !aside && e[3] >= from && e[3] <= to) {
                sum[0] += e[4];
                sum[1] += e[3];
                sum[2]++;
            }
        }
        return sum;
    }

    long losses(int from, int to, int what) {
        if (!in(from, 1, 999) || !in(to, 1, 999) || from > to || !in(what, 0, 1)) {
            return wideRefusal(-2);
        }
        int[] sum = lost(from, to);
        return sum[2] == 0 ? wideRefusal(-3) : told(sum[0], sum[1], what);
    }

    int size(int m) {
        if (!in(m, 1, 9)) {
            return -2;
        }
        int[] from = {1, 10, 20, 30, 40, 50, 60, 70, 80, 90};
        int[] to = {9, 19, 29, 39, 49, 59, 69, 79, 89, 99};
        int best = -1;
        for (int span = 9; span >= 0; span--) {
            int[] sum = lost(from[span], to[span]);
            if (sum[2] >= m) {
                int[] least = best < 0 ? null : lost(from[best], to[best]);
                if (best < 0 || sum[0] * least[1] < least[0] * sum[1]) {
                    best = span;
                }
            }
        }
        return best;
    }

    /** Sum and number; with a crew below 0 of all, with other turned round of all others. */
    private long[] sum(int kind, int box, int from, int to, int crew, boolean other) {
        long[] sum = new long[2];
        for (int[] e : known()) {
            boolean ofCrew = crew < 0 || (e[1] == crew) != other;
            if (e[0] == kind && e[3 + box] != -1 && e[2] >= from && e[2] <= to && ofCrew) {
                sum[0] += e[3 + box];
                sum[1]++;
            }
        }
        return sum;
    }

    private static long less(long[] one, long[] other, int what) {
        if (one[1] == 0 || other[1] == 0) {
            return wideRefusal(-3);
        }
        return told(one[0] * other[1] - other[0] * one[1], one[1] * other[1], what);
    }

    long mean(int kind, int box, int from, int to, int what) {
        if (!in(kind, 0, 3) || !in(box, 0, 2) || !in(from, 0, 99) || !in(to, 0, 99) || from > to || !in(what, 0, 1)) {
            return wideRefusal(-2);
        }
        long[] sum = sum(kind, box, from, to, -1, false);
        return sum[1] == 0 ? wideRefusal(-3) : told(sum[0], sum[1], what);
    }

    long did(int kind, int box, int x, int y, int what) {
        if (!in(kind, 0, 3) || !in(box, 0, 2) || !in(x, 0, 99) || !in(y, 0, 99) || !in(what, 0, 1)) {
            return wideRefusal(-2);
        }
        for (int week = x - 4; week < x + 4; week++) {
            if (week == y) {
                return wideRefusal(-3);
            }
        }
        return less(sum(kind, box, x, x + 3, -1, false), sum(kind, box, x - 4, x - 1, -1, false), what);
    }

    long leans(int crew, int kind, int box, int what) {
        if (!in(crew, 0, 7) || !in(kind, 0, 3) || !in(box, 0, 2) || !in(what, 0, 1)) {
            return wideRefusal(-2);
        }
        return less(sum(kind, box, 0, 99, crew, false), sum(kind, box, 0, 99, crew, true), what);
    }

    // ---- hours, sinks, order

    /** Every choice of a week: flying fresh, flying worn, mended worn, mended done. */
    private List<int[]> choices(int fresh, int worn, int done) {
        List<int[]> choices = new ArrayList<>();
        for (int ff = 0; ff <= fresh; ff++) {
            for (int fw = 0; fw <= worn; fw++) {
                for (int mw = 0; mw <= worn - fw; mw++) {
                    for (int md = 0; md <= done; md++) {
                        if (mw + md <= laws[6]) {
                            choices.add(new int[] {ff, fw, mw, md});
                        }
                    }
                }
            }
        }
        return choices;
    }

    private int flights(int left, int fresh, int worn, int done) {
        if (left == 0) {
            return 0;
        }
        int key = ((left * 9 + fresh) * 9 + worn) * 9 + done;
        if (seen.containsKey(key)) {
            return seen.get(key);
        }
        int most = 0;
        for (int[] c : choices(fresh, worn, done)) {
            most = Math.max(most, with(c, left, fresh, worn, done));
        }
        seen.put(key, most);
        return most;
    }

    private int with(int[] c, int left, int fresh, int worn, int done) {
        return c[0] + c[1] + flights(left - 1, fresh - c[0] + c[2] + c[3], worn - c[1] - c[2] + c[0],
                done + c[1] - c[3]);
    }

    int hours(int n, int weeks) {
        if (!in(n, 1, 8) || !in(weeks, 1, 20)) {
            return -2;
        }
        return 10 * flights(weeks, n, 0, 0);
    }

    private static boolean preferred(int[] one, int[] other) {
        int[] a = {-(one[0] + one[1]), -one[0], one[2], one[3]};
        int[] b = {-(other[0] + other[1]), -other[0], other[2], other[3]};
        for (int i = 0; i < 4; i++) {
            if (a[i] != b[i]) {
                return a[i] < b[i];
            }
        }
        return false;
    }

    int plan(int n, int weeks, int i, int what) {
        if (!in(n, 1, 8) || !in(weeks, 1, 20) || i < 0 || i >= weeks || !in(what, 0, 2)) {
            return -2;
        }
        int fresh = n;
        int worn = 0;
        int done = 0;
        int[] best = null;
        for (int week = 0; week <= i; week++) {
            best = null;
            int most = flights(weeks - week, fresh, worn, done);
            for (int[] c : choices(fresh, worn, done)) {
                if (with(c, weeks - week, fresh, worn, done) == most && (best == null || preferred(c, best))) {
                    best = c;
                }
            }
            fresh += best[2] + best[3] - best[0];
            worn += best[0] - best[1] - best[2];
            done += best[1] - best[3];
        }
        return what == 0 ? best[0] + best[1] : what == 1 ? best[0] : best[2] + best[3];
    }

    /** Minute by minute, with people standing in a row. */
    int waits(int s, int by) {
        if (!in(s, 0, 3) || !in(by, 0, 1)) {
            return -2;
        }
        if (sheets[s] == null) {
            return find(1);
        }
        int[] come = new int[sheets[s].length];
        for (int i = 0; i < come.length; i++) {
            come[i] = sheets[s][i].intValue();
            if (!in(come[i], 0, 999) || i > 0 && come[i] < come[i - 1]) {
                return -3;
            }
        }
        return by == 0 ? atEither(come) : inARow(come);
    }

    private int atEither(int[] come) {
        int[] busy = new int[2];
        int next = 0;
        int waited = 0;
        for (int minute = 0; next < come.length; minute++) {
            for (int sink = 0; sink < 2; sink++) {
                if (busy[sink] == 0 && next < come.length && come[next] <= minute) {
                    waited += minute - come[next];
                    busy[sink] = laws[4] + laws[5];
                    next++;
                }
            }
            busy[0] = Math.max(0, busy[0] - 1);
            busy[1] = Math.max(0, busy[1] - 1);
        }
        return waited;
    }

    private int inARow(int[] come) {
        int washing = 0;
        int rinsing = 0;
        int washed = 0;
        int rinsed = 0;
        int leftToWash = 0;
        int leftToRinse = 0;
        int waited = 0;
        for (int minute = 0; rinsed < come.length; minute++) {
            if (leftToWash == 0 && washing > washed) {
                washed++;
            }
            if (leftToRinse == 0 && rinsing > rinsed) {
                waited += minute - come[rinsed] - laws[4] - laws[5];
                rinsed++;
            }
            if (leftToWash == 0 && washing < come.length && come[washing] <= minute) {
                washing++;
                leftToWash = laws[4];
            }
            if (leftToRinse == 0 && rinsing < washed) {
                rinsing++;
                leftToRinse = laws[5];
            }
            leftToWash = Math.max(0, leftToWash - 1);
            leftToRinse = Math.max(0, leftToRinse - 1);
        }
        return waited;
    }

    int order(int s, int t, int what) {
        if (!in(s, 0, 3) || !in(t, 1, 200) || !in(what, 0, 1)) {
            return -2;
        }
        if (sheets[s] == null) {
            return find(1);
        }
        List<int[]> pairs = new ArrayList<>();
        for (int i = 0; i < sheets[s].length; i += 2) {
            if (i + 1 == sheets[s].length) {
                return -3;
            }
            pairs.add(new int[] {sheets[s][i].intValue(), sheets[s][i + 1].intValue(), i / 2});
        }
        for (int[] pair : pairs) {
            if (!in(pair[0], 1, 20) || !in(pair[1], 0, 99)) {
                return -3;
            }
        }
        if (pairs.size() > 6) {
            return -4;
        }
        int[] best = {-1, -1};
        rows(pairs, new ArrayList<>(), t, best);
        return best[what];
    }

    private void rows(List<int[]> rest, List<int[]> row, int t, int[] best) {
        if (rest.isEmpty()) {
            int end = 0;
            int saved = 0;
            for (int[] pair : row) {
                end += pair[0];
                saved += end <= t ? (t - end) * pair[1] : 0;
            }
            if (saved > best[0]) {
                best[0] = saved;
                best[1] = row.isEmpty() ? -1 : row.get(0)[2];
            }
        }
        for (int[] next : rest) {
            List<int[]> others = new ArrayList<>(rest);
            others.remove(next);
            List<int[]> longer = new ArrayList<>(row);
            longer.add(next);
            rows(others, longer, t, best);
        }
    }

    // ---- sheets

    private static Number cut(int format, int v) {
        if (format == 0) {
            return (byte) v;
        }
        return format == 1 ? (Number) (short) v : (Number) v;
    }

    int sheet(int s, int format, int n) {
        if (!in(s, 0, 3) || !in(format, 0, 2) || n > 60) {
            return -2;
        }
        if (n < 0) {
            return find(5);
        }
        sheets[s] = new Number[n];
        java.util.Arrays.fill(sheets[s], cut(format, 0));
        formats[s] = format;
        return n;
    }

    int lose(int s) {
        if (!in(s, 0, 3)) {
            return -2;
        }
        if (sheets[s] == null) {
            return find(1);
        }
        int had = sheets[s].length;
        sheets[s] = null;
        return had;
    }

    private int itemRefusal(int s, int format, int i) {
        if (!in(s, 0, 3) || !in(format, 0, 2)) {
            return -2;
        }
        if (sheets[s] == null) {
            return find(1);
        }
        if (formats[s] != format) {
            return find(3);
        }
        return i < 0 || i >= sheets[s].length ? find(2) : 0;
    }

    int lay(int s, int format, int i, int v) {
        int refusal = itemRefusal(s, format, i);
        if (refusal != 0) {
            return refusal;
        }
        sheets[s][i] = cut(format, v);
        return 1;
    }

    int get(int s, int format, int i) {
        return itemRefusal(s, format, i) != 0 ? Integer.MIN_VALUE : sheets[s][i].intValue();
    }

    int copy(int s, int i, int t, int j, int n) {
        if (!in(s, 0, 3) || !in(t, 0, 3)) {
            return -2;
        }
        if (sheets[s] == null || sheets[t] == null) {
            return find(1);
        }
        if (formats[s] != formats[t]) {
            return find(4);
        }
        if (i < 0 || j < 0 || n < 0 || (long) i + n > sheets[s].length || (long) j + n > sheets[t].length) {
            return find(2);
        }
        Number[] were = sheets[s].clone();
        for (int k = 0; k < n; k++) {
            sheets[t][j + k] = were[i + k];
        }
        return 1;
    }

    int write(int base, int h, int s) {
        if (!in(base, 0, 24) || !in(h, 1, 5) || !in(s, 0, 3)) {
            return -2;
        }
        if (sheets[s] == null) {
            return find(1);
        }
        List<Integer> row = best(base, h);
        int n = 0;
        while (n < h && n < sheets[s].length) {
            sheets[s][n] = cut(formats[s], row.get(n));
            n++;
        }
        return n;
    }

    int count(int what) {
        int bytes = 0;
        for (StringBuilder text : texts) {
            bytes += text.length();
        }
        int blanks = 0;
        for (int[] e : known()) {
            for (int i = 3; i < 6; i++) {
                blanks += e[i] == -1 ? 1 : 0;
            }
        }
        int[] counts = {forms.size(), known().size(), bytes, asOf, start, wide, blanks, -2, finding};
        return in(what, 0, 8) ? counts[what] : -2;
    }

    long digest() {
        List<Long> each = new ArrayList<>();
        for (int i = 0; i < 7; i++) {
            each.add((long) count(i));
        }
        for (int f = 0; f < forms.size(); f++) {
            for (int i = 0; i < 7; i++) {
                each.add((long) about(f, i));
            }
        }
        for (int i = 0; i < 5; i++) {
            each.add((long) fault(i));
        }
        for (int i = 0; i < 4; i++) {
            each.add((long) counts(i / 2, i % 2));
        }
        for (int i = 0; i < 4; i++) {
            each.add(share(i / 2, i % 2));
        }
        for (int law : laws) {
            each.add((long) law);
        }
        each.add((long) depth());
        each.add((long) size(1));
        long h = 17;
        for (long v : each) {
            h = h * 31 + v;
        }
        return h;
    }
}
