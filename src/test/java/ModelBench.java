import java.util.ArrayDeque;
import java.util.ArrayList;
import java.util.Arrays;
import java.util.HashMap;
import java.util.HashSet;
import java.util.List;
import java.util.Map;
import java.util.Set;

/**
 * The document a second time, written for plainness alone and in other ways than ShadowBench, so
 * that a test can hold the two against each other.
 */
public final class ModelBench {
    static final int[] DX = {1, 0, 1, 1};
    static final int[] DY = {0, 1, 1, -1};
    static final int TRIES = 200000;
    static final int MEETINGS = 20000;

    /** Where one more row would be tried. */
    static final class Spent extends Exception {
        private static final long serialVersionUID = 1L;
    }

    /** Is given the pictures that fit, and says whether the search is over. */
    interface Taker {
        boolean take(long picture);
    }

    static final class ModelJob {
        int kind;
        int wide;
        int high;
        int[][] sums;
        int[] held;
        int[] weights;

        ModelJob(int kind, int wide, int high) {
            this.kind = kind;
            this.wide = wide;
            this.high = high;
            sums = new int[][] {new int[high], new int[wide], null, null};
            held = new int[wide * high];
            Arrays.fill(held, 2);
            weights = new int[wide * high];
        }

        ModelJob snapshot() {
            ModelJob other = new ModelJob(kind, wide, high);
            for (int way = 0; way < 4; way++) {
                other.sums[way] = sums[way] == null ? null : sums[way].clone();
            }
            other.held = held.clone();
            other.weights = weights.clone();
            return other;
        }
    }

    private final List<ModelJob> jobs = new ArrayList<>();
    private final List<Long> listed = new ArrayList<>();
    private int listWide;
    private int listHigh;
    private final Object[] shelves = new Object[8];
    /** How many rows the last search tried. */
    int tried;

    public ModelBench() {
    }

    static boolean isBoard(int wide, int high) {
        return wide >= 1 && wide <= 6 && high >= 1 && high <= 6;
    }

    static boolean isPicture(int wide, int high, long p) {
        return isBoard(wide, high) && p >= 0 && p < (1L << (wide * high));
    }

    static boolean one(int wide, long p, int x, int y) {
        return (p >> (y * wide + x)) % 2 != 0;
    }

    static int lines(int wide, int high, int way) {
        return way == 0 ? high : way == 1 ? wide : wide + high - 1;
    }

    static int[] shadowOf(int wide, int high, long p, int way) {
        int[] shadow = new int[lines(wide, high, way)];
        for (int y = 0; y < high; y++) {
            for (int x = 0; x < wide; x++) {
                if (one(wide, p, x, y)) {
                    shadow[way == 0 ? y : way == 1 ? x : way == 2 ? x - y + high - 1 : x + y]++;
                }
            }
        }
        return shadow;
    }

    private ModelJob at(int job) {
        return job >= 0 && job < jobs.size() ? jobs.get(job) : null;
    }

    public int job(int kind, int wide, int high) {
        if (kind < 0 || kind > 3 || !isBoard(wide, high)) {
            return -1;
        }
        if (jobs.size() == 8) {
            return -2;
        }
        jobs.add(new ModelJob(kind, wide, high));
        return jobs.size() - 1;
    }

    public int sum(int job, int way, int line, int v) {
        ModelJob j = at(job);
        if (j == null || way < 0 || way > 3 || line < 0 || line >= lines(j.wide, j.high, way)
                || v < 0 || v > 6) {
            return -1;
        }
        if (j.sums[way] == null) {
            j.sums[way] = new int[lines(j.wide, j.high, way)];
        }
        j.sums[way][line] = v;
        return 0;
    }

    public int cast(int job, int way, long picture) {
        ModelJob j = at(job);
        if (j == null || way < 0 || way > 3 || !isPicture(j.wide, j.high, picture)) {
            return -1;
        }
        j.sums[way] = shadowOf(j.wide, j.high, picture, way);
        return Arrays.stream(j.sums[way]).sum();
    }

    public int untell(int job, int way) {
        ModelJob j = at(job);
        if (j == null || (way != 2 && way != 3)) {
            return -1;
        }
        int was = j.sums[way] == null ? 0 : 1;
        j.sums[way] = null;
        return was;
    }

    public int hold(int job, int square, int how) {
        ModelJob j = at(job);
        if (j == null || square < 0 || square >= j.held.length || how < 0 || how > 2) {
            return -1;
        }
        int was = j.held[square];
        j.held[square] = how;
        return was;
    }

    public int mark(int job, int square, int v) {
        ModelJob j = at(job);
        if (j == null || square < 0 || square >= j.held.length || v < -99 || v > 99) {
            return -1;
        }
        if (j.kind != 3) {
            return -4;
        }
        int was = j.weights[square];
        j.weights[square] = v;
        return was == v ? 0 : 1;
    }

    public int told(int job, int way, int line) {
        ModelJob j = at(job);
        if (j == null || way < 0 || way > 3 || line < -1 || line >= lines(j.wide, j.high, way)) {
            return -1;
        }
        if (line == -1) {
            return lines(j.wide, j.high, way);
        }
        return j.sums[way] == null ? -2 : j.sums[way][line];
    }

    public int shadow(int wide, int high, long picture, int way, int line) {
        if (!isPicture(wide, high, picture) || way < 0 || way > 3 || line < 0
                || line >= lines(wide, high, way)) {
            return -1;
        }
        return shadowOf(wide, high, picture, way)[line];
    }

    static boolean fitsJob(ModelJob j, long p) {
        for (int way = 0; way < 4; way++) {
            if (j.sums[way] != null
                    && !Arrays.equals(j.sums[way], shadowOf(j.wide, j.high, p, way))) {
                return false;
            }
        }
        for (int square = 0; square < j.held.length; square++) {
            if (j.held[square] != 2 && j.held[square] != ((p >> square) & 1)) {
                return false;
            }
        }
        boolean hangs = hangTogether(j.wide, j.high, p);
        boolean gapless = noGaps(j.wide, j.high, p, false) && noGaps(j.wide, j.high, p, true);
        return j.kind == 1 ? hangs : j.kind == 2 ? hangs && gapless : true;
    }

    static boolean hangTogether(int wide, int high, long p) {
        Set<Integer> left = new HashSet<>();
        for (int square = 0; square < wide * high; square++) {
            if (((p >> square) & 1) == 1) {
                left.add(square);
            }
        }
        if (left.isEmpty()) {
            return true;
        }
        ArrayDeque<Integer> open = new ArrayDeque<>();
        int first = left.iterator().next();
        left.remove(first);
        open.add(first);
        while (!open.isEmpty()) {
            int square = open.poll();
            int x = square % wide;
            int y = square / wide;
            int[][] sides = {{x - 1, y}, {x + 1, y}, {x, y - 1}, {x, y + 1}};
            for (int[] side : sides) {
                boolean on = side[0] >= 0 && side[0] < wide && side[1] >= 0 && side[1] < high;
                if (on && left.remove(side[1] * wide + side[0])) {
                    open.add(side[1] * wide + side[0]);
                }
            }
        }
        return left.isEmpty();
    }

    static boolean noGaps(int wide, int high, long p, boolean column) {
        for (int a = 0; a < (column ? wide : high); a++) {
            StringBuilder text = new StringBuilder();
            for (int b = 0; b < (column ? high : wide); b++) {
                text.append(one(wide, p, column ? a : b, column ? b : a) ? '1' : '0');
            }
            if (text.toString().matches(".*10+1.*")) {
                return false;
            }
        }
        return true;
    }

    public int fits(int job, long picture) {
        ModelJob j = at(job);
        if (j == null || !isPicture(j.wide, j.high, picture)) {
            return -1;
        }
        return fitsJob(j, picture) ? 1 : 0;
    }

    void search(ModelJob j, Taker taker) throws Spent {
        tried = 0;
        searchRow(j, 0, 0L, new int[j.wide], taker);
    }

    private boolean searchRow(ModelJob j, int y, long above, int[] columns, Taker taker)
            throws Spent {
        if (y == j.high) {
            return fitsJob(j, above) && taker.take(above);
        }
        for (int row = 0; row < (1 << j.wide); row++) {
            if (tried == TRIES) {
                throw new Spent();
            }
            tried++;
            int[] then = columns.clone();
            int ones = 0;
            boolean right = true;
            for (int x = 0; x < j.wide; x++) {
                int v = (row >> x) & 1;
                ones += v;
                then[x] += v;
                int held = j.held[y * j.wide + x];
                right &= then[x] <= j.sums[1][x] && (held == 2 || held == v);
            }
            if (right && ones == j.sums[0][y]) {
                long picture = above + ((long) row << (y * j.wide));
                if (searchRow(j, y + 1, picture, then, taker)) {
                    return true;
                }
            }
        }
        return false;
    }

    public int count(int job) {
        ModelJob j = at(job);
        if (j == null) {
            return -1;
        }
        int[] n = {0};
        try {
            search(j, p -> {
                n[0]++;
                return false;
            });
        } catch (Spent e) {
            return -5;
        }
        return n[0];
    }

    public long find(int job, int i) {
        ModelJob j = at(job);
        if (j == null || i < 0) {
            return -1;
        }
        long[] state = {-2, 0};
        try {
            search(j, p -> {
                if (state[1]++ == i) {
                    state[0] = p;
                    return true;
                }
                return false;
            });
        } catch (Spent e) {
            return -5;
        }
        return state[0];
    }

    public int rank(int job, long picture) {
        ModelJob j = at(job);
        if (j == null || !isPicture(j.wide, j.high, picture)) {
            return -1;
        }
        if (!fitsJob(j, picture)) {
            return -2;
        }
        int[] before = {0};
        try {
            search(j, p -> {
                if (p == picture) {
                    return true;
                }
                before[0]++;
                return false;
            });
        } catch (Spent e) {
            return -5;
        }
        return before[0];
    }

    public int sure(int job, int square) {
        ModelJob j = at(job);
        if (j == null || square < 0 || square >= j.held.length) {
            return -1;
        }
        Set<Long> seen = new HashSet<>();
        try {
            search(j, p -> {
                seen.add((p >> square) & 1);
                return false;
            });
        } catch (Spent e) {
            return -5;
        }
        return seen.isEmpty() ? -2 : seen.size() == 2 ? 2 : (int) (long) seen.iterator().next();
    }

    public int clash(int job) {
        ModelJob j = at(job);
        if (j == null) {
            return -1;
        }
        if (Arrays.stream(j.sums[0]).sum() != Arrays.stream(j.sums[1]).sum()) {
            return 0;
        }
        int[] columns = j.sums[1].clone();
        Arrays.sort(columns);
        int greatest = 0;
        for (int k = 1; k <= j.wide; k++) {
            greatest += columns[j.wide - k];
            int room = 0;
            for (int row : j.sums[0]) {
                room += row < k ? row : k;
            }
            if (greatest > room) {
                return k;
            }
        }
        return -2;
    }

    private static int worth(ModelJob j, long p) {
        int worth = 0;
        for (int square = 0; square < j.weights.length; square++) {
            worth += ((p >> square) & 1) * j.weights[square];
        }
        return worth;
    }

    public int best(int job) {
        return worth(jobs.get(markedAt(job)), bestOne(job));
    }

    private int markedAt(int job) {
        if (at(job) == null || at(job).kind != 3) {
            throw new IllegalArgumentException();
        }
        return job;
    }

    public long bestOne(int job) {
        ModelJob j = jobs.get(markedAt(job));
        List<Long> all = new ArrayList<>();
        try {
            search(j, p -> !all.add(p));
        } catch (Spent e) {
            throw new IllegalStateException();
        }
        if (all.isEmpty()) {
            throw new IllegalStateException();
        }
        int most = all.stream().mapToInt(p -> worth(j, p)).max().getAsInt();
        return all.stream().filter(p -> worth(j, p) == most).findFirst().get();
    }

    static List<Long> allSwitched(int wide, int high, long p) {
        List<Long> all = new ArrayList<>();
        for (int y = 0; y < high; y++) {
            for (int v = y + 1; v < high; v++) {
                for (int x = 0; x < wide; x++) {
                    for (int u = x + 1; u < wide; u++) {
                        boolean a = one(wide, p, x, y);
                        boolean b = one(wide, p, u, y);
                        boolean c = one(wide, p, x, v);
                        boolean d = one(wide, p, u, v);
                        if (a == d && b == c && a != b) {
                            long q = p;
                            for (int square : new int[] {y * wide + x, y * wide + u, v * wide + x,
                                v * wide + u}) {
                                q ^= 1L << square;
                            }
                            all.add(q);
                        }
                    }
                }
            }
        }
        return all;
    }

    public int switches(int wide, int high, long picture) {
        return isPicture(wide, high, picture) ? allSwitched(wide, high, picture).size() : -1;
    }

    public long switched(int wide, int high, long picture, int i) {
        if (!isPicture(wide, high, picture) || i < 0) {
            return -1;
        }
        List<Long> all = allSwitched(wide, high, picture);
        return i < all.size() ? all.get(i) : -2;
    }

    /** The pictures with their steps, as they are met from one, at most so many. */
    static List<long[]> meetFrom(int wide, int high, long from, int most) {
        List<long[]> met = new ArrayList<>();
        Set<Long> known = new HashSet<>();
        met.add(new long[] {from, 0});
        known.add(from);
        for (int at = 0; at < met.size(); at++) {
            for (long next : allSwitched(wide, high, met.get(at)[0])) {
                if (known.add(next)) {
                    met.add(new long[] {next, met.get(at)[1] + 1});
                    if (met.size() == most) {
                        return met;
                    }
                }
            }
        }
        return met;
    }

    public int far(int wide, int high, long from, long to) {
        if (!isPicture(wide, high, from) || !isPicture(wide, high, to)) {
            return -1;
        }
        for (int way = 0; way < 2; way++) {
            if (!Arrays.equals(shadowOf(wide, high, from, way), shadowOf(wide, high, to, way))) {
                return -2;
            }
        }
        for (long[] met : meetFrom(wide, high, from, MEETINGS)) {
            if (met[0] == to) {
                return (int) met[1];
            }
        }
        return -5;
    }

    public int joined(int wide, int high, long picture) {
        return !isPicture(wide, high, picture) ? -1 : hangTogether(wide, high, picture) ? 1 : 0;
    }

    public int even(int wide, int high, long picture, boolean column) {
        return !isPicture(wide, high, picture) ? -1 : noGaps(wide, high, picture, column) ? 1 : 0;
    }

    public long turned(int wide, int high, long picture, int how) {
        if (!isPicture(wide, high, picture) || how < 0 || how > 3) {
            return -1;
        }
        long result = 0;
        for (int y = 0; y < high; y++) {
            for (int x = 0; x < wide; x++) {
                int toX = how == 0 ? high - 1 - y : how == 2 ? y : x;
                int toY = how == 0 || how == 2 ? x : how == 1 ? high - 1 - y : y;
                int toWide = how == 0 || how == 2 ? high : wide;
                if (one(wide, picture, x, y) != (how == 3)) {
                    result += 1L << (toY * toWide + toX);
                }
            }
        }
        return result;
    }

    public int parts(int wide, int high, long picture, long other, int ways) {
        if (!isPicture(wide, high, picture) || !isPicture(wide, high, other) || ways < 0
                || ways > 15) {
            return -1;
        }
        for (int way = 0; way < 4; way++) {
            if ((ways & (1 << way)) != 0 && !Arrays.equals(shadowOf(wide, high, picture, way),
                    shadowOf(wide, high, other, way))) {
                return way;
            }
        }
        return -2;
    }

    public int list(int wide, int high, long picture) {
        if (!isPicture(wide, high, picture)) {
            return -1;
        }
        if (listed.size() == 12) {
            return -2;
        }
        if (!listed.isEmpty() && (listWide != wide || listHigh != high)) {
            return -3;
        }
        if (listed.contains(picture)) {
            return -3;
        }
        listWide = wide;
        listHigh = high;
        listed.add(picture);
        return listed.size();
    }

    public int clear() {
        int had = listed.size();
        listed.clear();
        return had;
    }

    public int ways() {
        int fewest = -2;
        for (int set = 15; set >= 0; set--) {
            Set<String> told = new HashSet<>();
            for (long p : listed) {
                StringBuilder text = new StringBuilder();
                for (int way = 0; way < 4; way++) {
                    if ((set & (1 << way)) != 0) {
                        text.append(Arrays.toString(shadowOf(listWide, listHigh, p, way)));
                    }
                }
                told.add(text.toString());
            }
            boolean fewer = fewest == -2 || Integer.bitCount(set) <= Integer.bitCount(fewest);
            if (told.size() == listed.size() && fewer) {
                fewest = set;
            }
        }
        return fewest;
    }

    /** The ghost's numbers by place (100 y + x), moved to where it stands. */
    static Map<Integer, Integer> ghostOf(int ways) {
        Map<Integer, Integer> ghost = new HashMap<>();
        ghost.put(5050, 1);
        for (int way = 0; way < 4; way++) {
            if ((ways & (1 << way)) != 0) {
                Map<Integer, Integer> moved = new HashMap<>(ghost);
                for (Map.Entry<Integer, Integer> e : ghost.entrySet()) {
                    moved.merge(e.getKey() + 100 * DY[way] + DX[way], -e.getValue(), Integer::sum);
                }
                ghost = moved;
            }
        }
        int leastX = ghost.keySet().stream().mapToInt(k -> k % 100).min().getAsInt();
        int leastY = ghost.keySet().stream().mapToInt(k -> k / 100).min().getAsInt();
        Map<Integer, Integer> stands = new HashMap<>();
        ghost.forEach((k, v) -> stands.put(k - 100 * leastY - leastX, v));
        return stands;
    }

    public int ghost(int ways, int x, int y) {
        if (ways < 1 || ways > 15 || x < 0 || x > 8 || y < 0 || y > 8) {
            throw new IllegalArgumentException();
        }
        return ghostOf(ways).getOrDefault(100 * y + x, 0);
    }

    public int haunts(int ways, int wide, int high) {
        return Math.min(1, ghosts(ways, wide, high));
    }

    public int ghosts(int ways, int wide, int high) {
        if (ways < 1 || ways > 15 || !isBoard(wide, high)) {
            return -1;
        }
        int places = 0;
        for (int y = 0; y < high; y++) {
            for (int x = 0; x < wide; x++) {
                boolean stands = true;
                for (int place : ghostOf(ways).keySet()) {
                    stands &= x + place % 100 < wide && y + place / 100 < high;
                }
                places += stands ? 1 : 0;
            }
        }
        return places;
    }

    private static boolean isShelf(int d) {
        return d >= 0 && d < 8;
    }

    public int keep(int d, int what, int k, long p) {
        if (!isShelf(d) || what < 0 || what > 4 || what == 2) {
            return -1;
        }
        ModelJob j = at(k);
        if (what != 0 && j == null) {
            return -1;
        }
        if (what == 3 && !isPicture(j.wide, j.high, p)) {
            return -1;
        }
        if (what == 0) {
            shelves[d] = null;
        } else if (what == 1) {
            shelves[d] = j.snapshot();
        } else if (what == 3) {
            byte[] row = new byte[j.wide * j.high];
            for (int i = 0; i < row.length; i++) {
                row[i] = (byte) ((p >> i) & 1);
            }
            shelves[d] = row;
        } else {
            long[] row = new long[j.high + j.wide];
            for (int i = 0; i < row.length; i++) {
                row[i] = i < j.high ? j.sums[0][i] : j.sums[1][i - j.high];
            }
            shelves[d] = row;
        }
        return 0;
    }

    public int make(int d, int what, int n) {
        if (!isShelf(d) || (what != 3 && what != 4) || n > 60) {
            return -1;
        }
        if (n < 0) {
            return -14;
        }
        shelves[d] = what == 3 ? new byte[n] : new long[n];
        return 0;
    }

    public long element(int d, int i) {
        if (!isShelf(d)) {
            throw new IllegalArgumentException();
        }
        if (shelves[d] instanceof byte[] row && i >= 0 && i < row.length) {
            return row[i];
        }
        if (shelves[d] instanceof long[] row && i >= 0 && i < row.length) {
            return row[i];
        }
        throw new IllegalStateException();
    }

    private static List<Long> elements(Object row) {
        List<Long> all = new ArrayList<>();
        if (row instanceof byte[] bytes) {
            for (byte b : bytes) {
                all.add((long) b);
            }
        } else {
            for (long v : (long[]) row) {
                all.add(v);
            }
        }
        return all;
    }

    public int copy(int d, int i, int e, int j, int n) {
        if (!isShelf(d) || !isShelf(e)) {
            return -1;
        }
        if (shelves[d] == null || shelves[e] == null) {
            return -11;
        }
        if (shelves[d] instanceof ModelJob || shelves[e] instanceof ModelJob
                || shelves[d].getClass() != shelves[e].getClass()) {
            return -12;
        }
        List<Long> from = elements(shelves[d]);
        if (n < 0 || i < 0 || j < 0 || (long) i + n > from.size()
                || (long) j + n > elements(shelves[e]).size()) {
            return -13;
        }
        for (int m = 0; m < n; m++) {
            if (shelves[e] instanceof byte[] row) {
                row[j + m] = (byte) (long) from.get(i + m);
            } else {
                ((long[]) shelves[e])[j + m] = from.get(i + m);
            }
        }
        return n;
    }

    public long layer(int d, int k) {
        if (!isShelf(d) || k < 0 || k > 8) {
            return -1;
        }
        if (shelves[d] == null) {
            return -11;
        }
        if (!(shelves[d] instanceof byte[] row)) {
            return -12;
        }
        if (row.length > 36) {
            return -13;
        }
        long picture = 0;
        for (int i = 0; i < row.length; i++) {
            picture += row[i] > k ? 1L << i : 0;
        }
        return picture;
    }

    public int weight(int d) {
        if (!isShelf(d)) {
            throw new IllegalArgumentException();
        }
        if (!(shelves[d] instanceof ModelJob j)) {
            throw new IllegalStateException();
        }
        int plain = 10 + j.wide * j.high;
        return j.kind == 0 ? plain : j.kind == 1 ? plain + 100 : j.kind == 2 ? 2 * (plain + 100)
                : plain + Arrays.stream(j.weights).sum();
    }

    public int toss(int d) {
        if (!isShelf(d)) {
            return -1;
        }
        if (shelves[d] == null) {
            return -11;
        }
        if (!(shelves[d] instanceof ModelJob j)) {
            return -12;
        }
        return j.kind == 0 ? -15 : j.kind;
    }
}
