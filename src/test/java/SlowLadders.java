import java.util.ArrayList;
import java.util.Arrays;
import java.util.HashMap;
import java.util.List;
import java.util.Map;

/**
 * The document said once more, as slowly and plainly as it reads: STANDS are tried all of them,
 * back() brings a copy again, WORK goes by whole STANDS and not by single LADDERS.
 */
final class SlowLadders {
    static final int BAD = -1, STATE = -2, FULL = -3, NONE = -9, NULL = -11, INDEX = -12, CAST = -13, SIZE = -15;
    private static final int NO_WAY = 1 << 28;

    /** What a CALL changes; copied ahead of each one. */
    private static final class Scene {
        int[] spots;
        int[] sums;
        int lastTurn = -1;
        List<int[]> calls = new ArrayList<>();

        Scene copy() {
            Scene c = new Scene();
            c.spots = spots.clone();
            c.sums = sums.clone();
            c.lastTurn = lastTurn;
            c.calls = new ArrayList<>(calls);
            return c;
        }

        List<Integer> places() {
            List<Integer> list = new ArrayList<>();
            for (int[] call : calls) {
                list.add(call[0]);
            }
            return list;
        }
    }

    private int places = 0;
    private final List<int[]> roadList = new ArrayList<>();
    private int kind = 0;
    private long trace = 0;
    private int status = 0;
    private int[] beginning = null;
    private Scene scene = null;
    private List<Scene> before = new ArrayList<>();
    private final int[] sorts = new int[3];
    private final Object[][] books = new Object[3][];
    private final Map<String, Map<Integer, Integer>> known = new HashMap<>();
    private List<int[]> allStands = null;

    // ---- places

    int place() {
        if (scene != null) return STATE;
        if (places == 6) return FULL;
        return places++;
    }

    private boolean isPlace(long p) {
        return p >= 0 && p < places;
    }

    int road(int a, int b, int length) {
        if (!isPlace(a) || !isPlace(b) || a == b || length < 1 || length > 100) return BAD;
        if (scene != null) return STATE;
        if (roadList.size() == 15) return FULL;
        roadList.add(new int[] {a, b, length});
        return roadList.size();
    }

    private int[][] dists = new int[0][];
    private int distsOf = 0;

    /** Made anew whenever there is a PLACE or a ROAD more. */
    private int dist(int a, int b) {
        if (dists.length != places || distsOf != roadList.size()) {
            dists = new int[places][places];
            distsOf = roadList.size();
            shifts.clear();
            for (int i = 0; i < places; i++) {
                for (int j = 0; j < places; j++) dists[i][j] = longDist(i, j);
            }
        }
        return dists[a][b];
    }

    private int longDist(int a, int b) {
        int[] far = new int[places];
        Arrays.fill(far, NO_WAY);
        far[a] = 0;
        for (int round = 0; round < places; round++) {
            for (int[] r : roadList) {
                far[r[1]] = Math.min(far[r[1]], far[r[0]] + r[2]);
                far[r[0]] = Math.min(far[r[0]], far[r[1]] + r[2]);
            }
        }
        return far[b];
    }

    int apart(int a, int b) {
        if (!isPlace(a) || !isPlace(b)) return BAD;
        int d = dist(a, b);
        return d >= NO_WAY ? NONE : d;
    }

    int way(int a, int b) {
        if (!isPlace(a) || !isPlace(b)) return BAD;
        if (a == b) return b;
        int whole = dist(a, b);
        if (whole >= NO_WAY) return NONE;
        int first = NONE;
        for (int[] r : roadList) {
            for (int side = 0; side < 2; side++) {
                int from = r[side];
                int to = r[1 - side];
                if (from == a && r[2] + dist(to, b) == whole && (first == NONE || to < first)) first = to;
            }
        }
        return first;
    }

    private boolean torn() {
        for (int a = 0; a < places; a++) {
            for (int b = 0; b < places; b++) {
                if (dist(a, b) >= NO_WAY) return true;
            }
        }
        return false;
    }

    // ---- a day

    private int[] standOf(int number, int n) {
        if (number < 0) return null;
        int[] stand = new int[n];
        int left = number;
        for (int i = 0; i < n; i++) {
            stand[i] = left % 8;
            left /= 8;
            if (!isPlace(stand[i])) return null;
        }
        return left == 0 ? stand : null;
    }

    private int numberOf(int[] stand) {
        int number = 0;
        for (int i = stand.length - 1; i >= 0; i--) number = number * 8 + stand[i];
        return number;
    }

    int begin(int n, int stand) {
        if (n < 1 || n > 3) return BAD;
        int[] s = standOf(stand, n);
        if (s == null) return BAD;
        if (torn()) return STATE;
        beginning = s;
        before = new ArrayList<>();
        scene = fresh();
        known.clear();
        allStands = new ArrayList<>();
        for (int number = 0; number < 512; number++) {
            int[] one = standOf(number, n);
            if (one != null) allStands.add(one);
        }
        return 1;
    }

    private Scene fresh() {
        Scene c = new Scene();
        c.spots = beginning.clone();
        c.sums = new int[beginning.length];
        return c;
    }

    int end() {
        if (scene == null) return STATE;
        int calls = scene.calls.size();
        scene = null;
        before = new ArrayList<>();
        return calls;
    }

    int rule(int k) {
        if (k < 0 || k > 3) return BAD;
        int was = kind;
        kind = k;
        return was;
    }

    private boolean stoodAt(Scene s, int place) {
        for (int spot : s.spots) {
            if (spot == place) return true;
        }
        return false;
    }

    /** The LADDER that goes; turned[0] becomes whether a TURN sent it without going up. */
    private int send(Scene s, int k, int place, boolean[] turned) {
        int n = s.spots.length;
        long[] weight = new long[n];
        if (k == 0) {
            trace += 1;
            for (int i = 0; i < n; i++) weight[i] = dist(s.spots[i], place);
            return firstLeast(weight);
        }
        if (k == 1) {
            trace += 10;
            if (stoodAt(s, place)) return send(s, 0, place, turned);
            for (int i = 0; i < n; i++) weight[i] = s.sums[i] + dist(s.spots[i], place);
            return firstLeast(weight);
        }
        if (k == 2) {
            trace += 100;
            if (stoodAt(s, place)) return send(s, 0, place, turned);
            turned[0] = true;
            return (s.lastTurn + 1) % n;
        }
        trace += 1000;
        if (stoodAt(s, place)) return send(s, 0, place, turned);
        if (n == 1) return send(s, 1, place, turned);
        List<Integer> all = s.places();
        all.add(place);
        for (int i = 0; i < n; i++) {
            int[] made = s.spots.clone();
            made[i] = place;
            weight[i] = workOf(all, made) + dist(s.spots[i], place);
        }
        return firstLeast(weight);
    }

    private int firstLeast(long[] weight) {
        int best = 0;
        for (int i = 0; i < weight.length; i++) {
            if (weight[i] < weight[best]) best = i;
        }
        return best;
    }

    private int serve(Scene s, int place) {
        boolean[] turned = new boolean[1];
        int goer = send(s, kind, place, turned);
        int far = dist(s.spots[goer], place);
        s.sums[goer] += far;
        s.spots[goer] = place;
        if (turned[0]) s.lastTurn = goer;
        s.calls.add(new int[] {place, goer, far, kind});
        return goer;
    }

    private int refusal(long place) {
        if (!isPlace(place)) return BAD;
        if (scene == null) return STATE;
        return scene.calls.size() == 12 ? FULL : 0;
    }

    int call(int place) {
        int why = refusal(place);
        if (why != 0) return why;
        before.add(scene.copy());
        return serve(scene, place);
    }

    int back() {
        if (scene == null || before.isEmpty()) return STATE;
        scene = before.remove(before.size() - 1);
        return scene.calls.size();
    }

    int cruel() {
        if (scene == null) return STATE;
        for (int p = 0; p < places; p++) {
            if (!stoodAt(scene, p)) {
                int answer = call(p);
                return answer < 0 ? answer : p;
            }
        }
        return STATE;
    }

    int ask(int place) {
        if (!isPlace(place)) return BAD;
        if (scene == null) return STATE;
        return send(scene.copy(), kind, place, new boolean[1]);
    }

    int stand() {
        return scene == null ? STATE : numberOf(scene.spots);
    }

    int told(int i, int what) {
        if (scene == null || i < 0 || i >= scene.calls.size() || what < 0 || what > 3) return BAD;
        return scene.calls.get(i)[what];
    }

    private int paid(Scene s) {
        int sum = 0;
        for (int one : s.sums) sum += one;
        return sum;
    }

    int cost(int ladder) {
        if (scene == null) return STATE;
        if (ladder < -1 || ladder >= scene.sums.length) return BAD;
        return ladder == -1 ? paid(scene) : scene.sums[ladder];
    }

    // ---- what would be least

    private int shift(int[] a, int[] b, int i, int used) {
        if (i == a.length) return 0;
        int best = NO_WAY;
        for (int j = 0; j < b.length; j++) {
            if ((used >> j & 1) == 0) best = Math.min(best, dist(a[i], b[j]) + shift(a, b, i + 1, used | 1 << j));
        }
        return best;
    }

    private final Map<Integer, Integer> shifts = new HashMap<>();
    private int shift(int[] a, int[] b) {
        int key = (a.length * 512 + numberOf(a)) * 512 + numberOf(b);
        Integer cost = shifts.get(key);
        if (cost == null) {
            cost = shift(a, b, 0, 0);
            shifts.put(key, cost);
        }
        return cost;
    }

    /** The least cost to have been at STANDS for all CALLS, by the latest STAND. */
    private Map<Integer, Integer> arrivals(List<Integer> calls) {
        String key = calls.toString();
        Map<Integer, Integer> now = known.get(key);
        if (now != null) return now;
        now = new HashMap<>();
        if (calls.isEmpty()) {
            now.put(numberOf(beginning), 0);
        } else {
            int call = calls.get(calls.size() - 1);
            Map<Integer, Integer> earlier = arrivals(calls.subList(0, calls.size() - 1));
            for (int[] to : allStands) {
                boolean has = false;
                for (int spot : to) has |= spot == call;
                if (has) now.put(numberOf(to), reach(earlier, to));
            }
        }
        known.put(key, now);
        return now;
    }

    private int reach(Map<Integer, Integer> from, int[] to) {
        int best = NO_WAY;
        for (Map.Entry<Integer, Integer> e : from.entrySet()) {
            best = Math.min(best, e.getValue() + shift(standOf(e.getKey(), to.length), to));
        }
        return best;
    }

    private int workOf(List<Integer> calls, int[] stand) {
        return reach(arrivals(calls), stand);
    }

    private int leastOf(List<Integer> calls) {
        int best = NO_WAY;
        for (int[] stand : allStands) best = Math.min(best, workOf(calls, stand));
        return best;
    }

    int moves(int stand, int other) {
        if (scene == null) return STATE;
        int[] a = standOf(stand, beginning.length);
        int[] b = standOf(other, beginning.length);
        return a == null || b == null ? BAD : shift(a, b);
    }

    int work(int n, int stand) {
        if (scene == null) return STATE;
        int[] s = standOf(stand, beginning.length);
        if (n < 0 || n > scene.calls.size() || s == null) return BAD;
        return workOf(scene.places().subList(0, n), s);
    }

    int least(int n) {
        if (scene == null) return STATE;
        if (n < 0 || n > scene.calls.size()) return BAD;
        return leastOf(scene.places().subList(0, n));
    }

    private int serveAll(List<Integer> calls, int i, int[] stand, Map<Integer, Integer> memo) {
        if (i == calls.size()) return 0;
        int key = i * 512 + numberOf(stand);
        if (memo.containsKey(key)) return memo.get(key);
        int best = NO_WAY;
        for (int l = 0; l < stand.length; l++) {
            int[] next = stand.clone();
            next[l] = calls.get(i);
            best = Math.min(best, dist(stand[l], calls.get(i)) + serveAll(calls, i + 1, next, memo));
        }
        memo.put(key, best);
        return best;
    }

    int plan(int n, int i) {
        if (scene == null) return STATE;
        if (n < 0 || n > scene.calls.size() || i < 0 || i >= n) return BAD;
        List<Integer> calls = scene.places().subList(0, n);
        Map<Integer, Integer> memo = new HashMap<>();
        int left = leastOf(calls);
        int[] stand = beginning.clone();
        for (int j = 0; ; j++) {
            int goer = -1;
            for (int l = 0; l < stand.length && goer < 0; l++) {
                int[] next = stand.clone();
                next[l] = calls.get(j);
                int far = dist(stand[l], calls.get(j));
                if (far + serveAll(calls, j + 1, next, memo) == left) {
                    goer = l;
                    left -= far;
                    stand = next;
                }
            }
            if (goer < 0) throw new IllegalStateException("no PLAN costs LEAST");
            if (j == i) return goer;
        }
    }

    int ratio() {
        if (scene == null) return STATE;
        int least = leastOf(scene.places());
        return least == 0 ? NONE : (int) (1000L * paid(scene) / least);
    }

    int worst(int n, int what) {
        if (scene == null) return STATE;
        if (n < 1 || n > 3 || what < 0 || what > 2) return BAD;
        int[] best = null;
        int rows = (int) Math.round(Math.pow(places, n));
        for (int row = 0; row < rows; row++) {
            Scene s = fresh();
            int number = 0;
            int weight = rows / places;
            for (int k = 0; k < n; k++) {
                int p = row / weight % places;
                weight /= places;
                number = number * 8 + p;
                serve(s, p);
            }
            int least = leastOf(s.places());
            if (best == null || paid(s) - least > best[1] - best[2]) best = new int[] {number, paid(s), least};
        }
        return best[what];
    }

    // ---- books

    private int tell(int why) {
        status = why;
        return why == 0 ? 1 : why;
    }

    int book(int book, int sort, int n) {
        if (book < 0 || book > 2 || sort < 0 || sort > 3 || n > 4) return tell(BAD);
        if (n < 0) return tell(SIZE);
        sorts[book] = sort;
        books[book] = new Object[n];
        return tell(0);
    }

    int row(int book, int r, int n) {
        if (book < 0 || book > 2 || n > 8) return tell(BAD);
        if (books[book] == null) return tell(NULL);
        if (r < 0 || r >= books[book].length) return tell(INDEX);
        if (n < 0) return tell(SIZE);
        Object made = new long[n];
        if (sorts[book] == 0) made = new byte[n];
        if (sorts[book] == 1) made = new short[n];
        if (sorts[book] == 2) made = new int[n];
        books[book][r] = made;
        return tell(0);
    }

    private int size(Object row) {
        return java.lang.reflect.Array.getLength(row);
    }

    private long number(Object row, int i) {
        return java.lang.reflect.Array.getLong(row, i);
    }

    private int finding(int book, int sort, int r, int i) {
        if (book < 0 || book > 2 || sort < 0 || sort > 3) return BAD;
        if (books[book] == null) return NULL;
        if (sorts[book] != sort) return CAST;
        if (r < 0 || r >= books[book].length) return INDEX;
        if (books[book][r] == null) return NULL;
        return i < 0 || i >= size(books[book][r]) ? INDEX : 0;
    }

    int put(int book, int sort, int r, int i, long v) {
        int why = finding(book, sort, r, i);
        if (why == 0) {
            Object row = books[book][r];
            if (row instanceof byte[]) ((byte[]) row)[i] = (byte) v;
            if (row instanceof short[]) ((short[]) row)[i] = (short) v;
            if (row instanceof int[]) ((int[]) row)[i] = (int) v;
            if (row instanceof long[]) ((long[]) row)[i] = v;
        }
        return tell(why);
    }

    long item(int book, int sort, int r, int i) {
        int why = finding(book, sort, r, i);
        tell(why);
        return why == 0 ? number(books[book][r], i) : 0;
    }

    private boolean isInt(long v) {
        return v >= Integer.MIN_VALUE && v <= Integer.MAX_VALUE;
    }

    int roads(int book) {
        if (book < 0 || book > 2) return tell(BAD);
        status = NULL;
        if (books[book] == null) return 0;
        int came = 0;
        for (Object row : books[book]) {
            status = NULL;
            if (row == null) return came;
            status = INDEX;
            if (size(row) < 3) return came;
            status = BAD;
            if (!isInt(number(row, 0)) || !isInt(number(row, 1)) || !isInt(number(row, 2))) return came;
            int answer = road((int) number(row, 0), (int) number(row, 1), (int) number(row, 2));
            status = answer;
            if (answer < 0) return came;
            came++;
        }
        status = 0;
        return came;
    }

    int calls(int book, int r) {
        if (book < 0 || book > 2) return tell(BAD);
        status = NULL;
        if (books[book] == null) return 0;
        status = INDEX;
        if (r < 0 || r >= books[book].length) return 0;
        status = NULL;
        if (books[book][r] == null) return 0;
        int came = 0;
        for (int i = 0; i < size(books[book][r]); i++) {
            long p = number(books[book][r], i);
            int answer = isInt(p) ? call((int) p) : BAD;
            status = answer;
            if (answer < 0) return came;
            came++;
        }
        status = 0;
        return came;
    }

    // ---- what is told

    int about(int what) {
        switch (what) {
            case 0: return places;
            case 1: return roadList.size();
            case 2: return scene == null ? 0 : scene.spots.length;
            case 3: return scene == null ? 0 : scene.calls.size();
            case 4: return kind;
            case 5: return torn() ? 1 : 0;
            default: return BAD;
        }
    }

    long trace() {
        return trace;
    }

    int status() {
        return status;
    }
}
