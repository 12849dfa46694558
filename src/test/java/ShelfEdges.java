import java.lang.reflect.Field;

/** The boundary cases of promises 31 to 37: shelves. */
final class ShelfEdges {
    private static final int LOW = Calls.LOW;
    private static final int TOP = Calls.TOP;
    private static final int[] NO_SHELF = {-1, 8, 9, LOW, TOP};
    private static final int[] NO_JOB = {-1, 5, 8, LOW, TOP};

    private ShelfEdges() {
    }

    /** The elements of a row as one number, from the first on. */
    private static long rowOf(ShadowBench b, int d, int n) {
        long all = 0;
        for (int i = 0; i < n; i++) {
            all = all * 10 + b.element(d, i);
        }
        Check.thrown(IllegalStateException.class, () -> b.element(d, n));
        return all;
    }

    @Says(promise = 31, words = {"SHELF d gets: what = 0 nothing; 1 JOB k; 3 a ROW of bytes: the "
            + "SQUARES of PICTURE p of JOB k's BOARD; 4 a ROW of longs: SUMS of WAY 0, then of WAY "
            + "1 of JOB k: 0."})
    static void keep() {
        for (int d : new int[] {0, 7}) {
            ShadowBench b = Calls.toldBy(0, 3, 2, Calls.pic("##.", "#.."));
            Check.due(b.keep(d, 1, 0, 0), 0);
            Check.due(b.weight(d), 16);
            Check.due(b.keep(d, 3, 0, 0), 0);
            Check.due(rowOf(b, d, 6), 0);
            Check.due(b.keep(d, 3, 0, 63), 0);
            Check.due(rowOf(b, d, 6), 111111);
            Check.due(b.keep(d, 3, 0, Calls.pic("#..", ".#.")), 0);
            Check.due(rowOf(b, d, 6), 100010);
            Check.due(b.layer(d, 0), Calls.pic("#..", ".#."));
            Check.due(b.keep(d, 4, 0, 0), 0);
            Check.due(rowOf(b, d, 5), 21210);
            Check.due(b.layer(d, 0), -12);
            Check.due(b.keep(d, 0, 0, 0), 0);
            Check.due(b.toss(d), -11);
            Check.due(b.keep(d, 0, 0, 0), 0);
        }
        // The least and the greatest board; sums as great as can be.
        ShadowBench b = new ShadowBench();
        b.job(0, 1, 1);
        b.job(0, 6, 6);
        b.cast(1, 0, Calls.full(6, 6));
        b.keep(0, 3, 0, 1);
        Check.due(rowOf(b, 0, 1), 1);
        b.keep(0, 3, 1, 1L << 35 | 1L << 32);
        Check.due(b.layer(0, 0), 1L << 35 | 1L << 32);
        b.keep(0, 4, 1, 0);
        Check.due(rowOf(b, 0, 12), 666666000000L);
        // A row stays as the sums were.
        b.cast(1, 0, 0);
        Check.due(rowOf(b, 0, 12), 666666000000L);
        // What is not used may be any number.
        Check.due(b.keep(0, 0, -1, -1), 0);
        Check.due(b.keep(0, 1, 1, -1), 0);
        Check.due(b.keep(0, 4, 1, Long.MIN_VALUE), 0);
    }

    @Says(promise = 31, words = "-1.")
    static void keepOfNothing() {
        for (int d : NO_SHELF) {
            for (int what : new int[] {0, 1, 3, 4}) {
                Refused.in(Look.SOME, -1, b -> b.keep(d, what, 0, 0));
            }
        }
        for (int d : new int[] {0, 4, 5, 7}) {
            for (int what : new int[] {2, 5, -1, LOW, TOP}) {
                Refused.in(Look.SOME, -1, b -> b.keep(d, what, 0, 0));
            }
            for (int job : NO_JOB) {
                for (int what : new int[] {1, 3, 4}) {
                    Refused.in(Look.SOME, -1, b -> b.keep(d, what, job, 0));
                }
            }
            for (long p : new long[] {512, -1, Long.MIN_VALUE, Long.MAX_VALUE}) {
                Refused.in(Look.SOME, -1, b -> b.keep(d, 3, 0, p));
            }
        }
        Refused.in(Look.FULL, -1, b -> b.keep(0, 3, 7, 1L << 36));
        Refused.in(Look.FULL, -1, b -> b.keep(0, 1, 8, 0));
    }

    @Says(promise = 32, words = {"SHELF d gets a ROW of n bytes, or longs, 0 (what 3, 4; n up to "
            + "60): 0.", "-1;"})
    static void make() {
        for (int what = 3; what <= 4; what++) {
            int one = what;
            for (int n : new int[] {0, 1, 36, 37, 59, 60}) {
                ShadowBench b = new ShadowBench();
                Check.due(b.make(n % 8, what, n), 0);
                Check.due(rowOf(b, n % 8, n), 0);
                Check.due(b.layer(n % 8, 0), what == 4 ? -12 : n > 36 ? -13 : 0);
                Check.due(b.toss(n % 8), -12);
            }
            for (int n : new int[] {61, 62, TOP}) {
                Refused.in(Look.SOME, -1, b -> b.make(4, one, n));
                Refused.in(Look.SOME, -1, b -> b.make(7, one, n));
            }
            for (int d : NO_SHELF) {
                Refused.in(Look.SOME, -1, b -> b.make(d, one, 1));
            }
        }
        for (int what : new int[] {0, 1, 2, 5, -1, LOW, TOP}) {
            Refused.in(Look.SOME, -1, b -> b.make(4, what, 1));
        }
        // A new row has noughts where an old one had ones.
        ShadowBench b = Calls.with(0, 3, 3);
        b.keep(0, 3, 0, 511);
        Check.due(b.make(0, 3, 9), 0);
        Check.due(rowOf(b, 0, 9), 0);
    }

    @Says(promise = 32, words = "-14: n is below 0.")
    static void makeBelowNought() {
        for (int n : new int[] {-1, -2, LOW}) {
            for (int d : new int[] {0, 4, 5, 7}) {
                Refused.in(Look.SOME, -14, b -> b.make(d, 3, n));
                Refused.in(Look.SOME, -14, b -> b.make(d, 4, n));
            }
            Refused.in(Look.SOME, -1, b -> b.make(8, 3, n));
            Refused.in(Look.SOME, -1, b -> b.make(0, 2, n));
        }
    }

    @Says(promise = 33, words = "Element i, from 0, of the ROW on SHELF d.")
    static void element() {
        ShadowBench b = Calls.toldBy(0, 6, 6, Calls.full(6, 6));
        b.keep(0, 3, 0, 1L | 1L << 35);
        b.keep(7, 4, 0, 0);
        Check.due(b.element(0, 0), 1);
        Check.due(b.element(0, 1), 0);
        Check.due(b.element(0, 34), 0);
        Check.due(b.element(0, 35), 1);
        Check.due(b.element(7, 0), 6);
        Check.due(b.element(7, 11), 6);
    }

    @Says(promise = 33, words = {"IllegalArgumentException: no such SHELF;",
        "IllegalStateException: nothing is held, it is no ROW, or has no such place."})
    static void elementOfNothing() {
        for (int d : NO_SHELF) {
            Refused.thrown(Look.SOME, IllegalArgumentException.class, b -> b.element(d, 0));
            Refused.thrown(Look.SOME, IllegalArgumentException.class, b -> b.element(d, -1));
        }
        for (int i : new int[] {0, -1, TOP}) {
            Refused.thrown(Look.SOME, IllegalStateException.class, b -> b.element(7, i));
            for (int d = 0; d < 4; d++) {
                int job = d;
                Refused.thrown(Look.SOME, IllegalStateException.class, b -> b.element(job, i));
            }
        }
        // Shelf 4 has nine bytes, shelf 5 six longs, shelf 6 forty bytes.
        int[][] beyond = {{4, 9}, {5, 6}, {6, 40}};
        for (int[] one : beyond) {
            for (int i : new int[] {one[1], one[1] + 1, -1, LOW, TOP}) {
                Refused.thrown(Look.SOME, IllegalStateException.class, b -> b.element(one[0], i));
            }
        }
        ShadowBench empty = new ShadowBench();
        empty.make(0, 3, 0);
        Check.thrown(IllegalStateException.class, () -> empty.element(0, 0));
    }

    @Says(promise = 34, words = {"n elements of the ROW on SHELF d, from place i, come to the ROW on "
            + "SHELF e, from place j (as they all were before): n.", "-1;"})
    static void copy() {
        ShadowBench b = Calls.toldBy(0, 6, 1, 63);
        b.keep(0, 3, 0, Calls.pic("#.##.."));
        b.make(1, 3, 6);
        Check.due(b.copy(0, 0, 1, 0, 6), 6);
        Check.due(rowOf(b, 1, 6), 101100);
        Check.due(rowOf(b, 0, 6), 101100);
        Check.due(b.copy(0, 2, 1, 5, 1), 1);
        Check.due(rowOf(b, 1, 6), 101101);
        Check.due(b.copy(0, 5, 1, 0, 1), 1);
        Check.due(rowOf(b, 1, 6), 1101);
        // None at all, from and to the end too.
        Check.due(b.copy(0, 0, 1, 0, 0), 0);
        Check.due(b.copy(0, 6, 1, 6, 0), 0);
        Check.due(b.copy(0, 6, 0, 6, 0), 0);
        Check.due(rowOf(b, 1, 6), 1101);
        onOneShelf();
        for (int d : NO_SHELF) {
            Refused.in(Look.SOME, -1, x -> x.copy(d, 0, 4, 0, 1));
            Refused.in(Look.SOME, -1, x -> x.copy(4, 0, d, 0, 1));
            Refused.in(Look.SOME, -1, x -> x.copy(d, 0, d, 0, 0));
        }
    }

    /** Forth and back on one shelf: as they all were before. */
    private static void onOneShelf() {
        int[][] moves = {{0, 1, 6}, {1, 0, 6}, {0, 6, 1}, {6, 0, 1}, {0, 3, 4}, {3, 0, 4},
            {2, 2, 5}, {0, 0, 7}, {0, 2, 5}, {2, 0, 5}};
        for (int[] move : moves) {
            ShadowBench b = Calls.with(0, 5, 2);
            int[] row = {1, 2, 3, 4, 5, 6, 0};
            for (int i = 0; i < 2; i++) {
                b.sum(0, 0, i, row[i]);
            }
            for (int i = 2; i < 7; i++) {
                b.sum(0, 1, i - 2, row[i]);
            }
            b.keep(3, 4, 0, 0);
            Check.due(b.copy(3, move[0], 3, move[1], move[2]), move[2]);
            int[] then = row.clone();
            System.arraycopy(row, move[0], then, move[1], move[2]);
            long due = 0;
            for (int v : then) {
                due = due * 10 + v;
            }
            Check.due(rowOf(b, 3, 7), due);
        }
    }

    @Says(promise = 34, words = {"-11: of either;",
        "-12: one is no ROW, or they are not of one kind;"})
    static void copyOfNoRow() {
        for (int d = 0; d < 8; d++) {
            int one = d;
            Refused.in(Look.SOME, -11, b -> b.copy(7, 0, one, 0, 0));
            Refused.in(Look.SOME, -11, b -> b.copy(one, 0, 7, 0, 0));
        }
        for (int d = 0; d < 4; d++) {
            int job = d;
            for (int row = 4; row < 7; row++) {
                int other = row;
                Refused.in(Look.SOME, -12, b -> b.copy(job, 0, other, 0, 0));
                Refused.in(Look.SOME, -12, b -> b.copy(other, 0, job, 0, 0));
            }
            Refused.in(Look.SOME, -12, b -> b.copy(job, 0, job, 0, 0));
        }
        Refused.in(Look.SOME, -12, b -> b.copy(4, 0, 5, 0, 0));
        Refused.in(Look.SOME, -12, b -> b.copy(5, 0, 4, 0, 0));
        Refused.in(Look.SOME, -12, b -> b.copy(5, 0, 6, 0, 1));
        Refused.in(Look.SOME, -12, b -> b.copy(6, 0, 5, 0, 1));
    }

    @Says(promise = 34, words = "-13: n, i or j is below 0, or beyond either's end.")
    static void copyBeyondTheEnd() {
        // Nine bytes and forty: the last that may be, the first that may not, for each number.
        ShadowBench b = new ShadowBench();
        Look.SOME.build(b);
        Check.due(b.copy(4, 0, 6, 31, 9), 9);
        Check.due(b.copy(4, 8, 6, 39, 1), 1);
        Check.due(b.copy(6, 39, 4, 8, 1), 1);
        Check.due(b.copy(4, 9, 6, 40, 0), 0);
        int[][] beyond = {{4, 0, 6, 32, 9}, {4, 1, 6, 31, 9}, {4, 0, 6, 0, 10}, {4, 9, 6, 0, 1},
            {4, 0, 6, 40, 1}, {4, 10, 6, 0, 0}, {4, 0, 6, 41, 0}, {6, 0, 4, 0, 10},
            {6, 31, 4, 0, 10}, {6, 32, 4, 0, 9}, {6, 40, 4, 0, 1}, {6, 0, 4, 9, 1},
            {4, -1, 6, 0, 1}, {4, 0, 6, -1, 1}, {4, 0, 6, 0, -1}, {4, 9, 6, 40, -1},
            {4, -1, 6, 0, 0}, {4, 0, 6, -1, 0}, {4, -1, 6, -1, -1}, {4, 1, 6, 1, TOP},
            {4, TOP, 6, 0, 1}, {4, 0, 6, TOP, 1}, {4, TOP, 6, TOP, TOP}, {4, TOP, 6, 0, 0},
            {4, LOW, 6, 0, LOW}, {4, 0, 6, LOW, 1}, {4, 0, 6, 0, LOW}, {4, 2, 6, 2, TOP - 1},
            {4, 5, 4, 0, 5}, {4, 0, 4, 5, 5}, {5, 0, 5, 1, 6}, {5, 1, 5, 0, 6}, {5, 7, 5, 0, 0}};
        for (int[] one : beyond) {
            Refused.in(Look.SOME, -13, x -> x.copy(one[0], one[1], one[2], one[3], one[4]));
        }
        // Rows without places.
        ShadowBench empty = new ShadowBench();
        empty.make(0, 4, 0);
        empty.make(1, 4, 1);
        Check.due(empty.copy(0, 0, 0, 0, 0), 0);
        Check.due(empty.copy(0, 0, 1, 1, 0), 0);
        Check.due(empty.copy(0, 0, 1, 0, 1), -13);
        Check.due(empty.copy(1, 0, 0, 0, 1), -13);
        Check.due(empty.copy(1, 0, 0, 1, 0), -13);
    }

    @Says(promise = 35, words = {"LAYER k (0 .. 8) of the GREY that is the ROW of bytes on SHELF d "
            + "(36 at most): a PICTURE: bit i: element i.", "-1, -11, -12;"})
    static void layer() {
        ShadowBench b = Calls.with(0, 6, 6);
        for (int square = 0; square < 36; square++) {
            b.keep(0, 3, 0, 1L << square);
            Check.due(b.layer(0, 0), 1L << square);
            Check.due(b.layer(0, 1), 0);
            Check.due(b.layer(0, 8), 0);
        }
        for (int k : new int[] {-1, 9, 10, LOW, TOP}) {
            for (int d = 0; d < 8; d++) {
                int one = d;
                Refused.in(Look.SOME, -1, x -> x.layer(one, k));
            }
        }
        for (int d : NO_SHELF) {
            Refused.in(Look.SOME, -1, x -> x.layer(d, 0));
        }
        for (int k : new int[] {0, 8}) {
            Refused.in(Look.SOME, -11, x -> x.layer(7, k));
            for (int d : new int[] {0, 1, 2, 3, 5}) {
                Refused.in(Look.SOME, -12, x -> x.layer(d, k));
            }
        }
    }

    @Says(promise = 35, words = "-13: more than 36;")
    static void layerOfMore() {
        ShadowBench b = Calls.with(0, 6, 6);
        b.keep(1, 3, 0, Calls.full(6, 6));
        Check.due(b.layer(1, 0), Calls.full(6, 6));
        for (int n : new int[] {0, 1, 35, 36, 37, 59, 60}) {
            b.make(0, 3, n);
            Check.due(b.copy(1, 0, 0, 0, Math.min(n, 36)), Math.min(n, 36));
            Check.due(b.layer(0, 0), n > 36 ? -13 : (1L << n) - 1);
            Check.due(b.layer(0, 8), n > 36 ? -13 : 0);
        }
        Refused.in(Look.SOME, -13, x -> x.layer(6, 0));
        Refused.in(Look.SOME, -13, x -> x.layer(6, 8));
        // Longs are none, how many there may be.
        b.make(0, 4, 60);
        Check.due(b.layer(0, 0), -12);
    }

    @Says(promise = 0, words = "LAYERS of a GREY (a ROW of numbers 0 .. 9, SQUARE by SQUARE): k-th "
            + "LAYER: the PICTURE of the SQUARES with more than k.")
    static void layersOfGreys() {
        ShadowBench b = Calls.with(0, 6, 6);
        for (long p : new long[] {0, 1, 1L << 35, Calls.full(6, 6)}) {
            b.keep(0, 3, 0, p);
            Check.due(b.layer(0, 0), p);
            for (int k = 1; k <= 8; k++) {
                Check.due(b.layer(0, k), 0);
            }
        }
        b.make(0, 3, 10);
        if (canPutGreys(b, 0, 0, 1, 2, 3, 4, 5, 6, 7, 8, 9)) {
            for (int k = 0; k <= 8; k++) {
                Check.due(b.layer(0, k), 1023 - ((2 << k) - 1));
            }
        }
    }

    @Says(promise = 35, words = "-2: a number is not 0 .. 9.")
    static void layerOfNoGrey() {
        for (int k = 0; k <= 8; k++) {
            for (int place : new int[] {0, 17, 35}) {
                for (long v : new long[] {10, -1, 127, -128, 0, 9}) {
                    ShadowBench b = new ShadowBench();
                    b.make(0, 3, 36);
                    long[] greys = new long[36];
                    greys[place] = v;
                    if (canPutGreys(b, 0, greys)) {
                        Check.due(b.layer(0, k), v == 0 ? 0 : v == 9 ? 1L << place : -2);
                    }
                }
            }
        }
        // More than 36 and no grey: -2 stands before -13.
        ShadowBench b = new ShadowBench();
        b.make(0, 3, 37);
        Check.due(b.layer(0, 0), -13);
        long[] greys = new long[37];
        greys[36] = 10;
        if (canPutGreys(b, 0, greys)) {
            Check.due(b.layer(0, 0), -2);
        }
    }

    /**
     * No call puts other numbers than 0 and 1 into a row of bytes, so this reaches for the row
     * itself, by the names that the class has for it. How a row is held inside is free: where it is
     * held otherwise, there is nothing to look at.
     */
    private static boolean canPutGreys(ShadowBench b, int d, long... greys) {
        try {
            Field shelves = ShadowBench.class.getDeclaredField("shelves");
            shelves.setAccessible(true);
            Object row = ((Object[]) shelves.get(b))[d];
            Field numbers = row.getClass().getDeclaredField("numbers");
            numbers.setAccessible(true);
            System.arraycopy(greys, 0, (long[]) numbers.get(row), 0, greys.length);
            return true;
        } catch (ReflectiveOperationException | RuntimeException e) {
            return false;
        }
    }

    @Says(promise = 36, words = {"The WEIGHT of the JOB on SHELF d: 10 and its SQUARES; of JOINED "
            + "ones 100 more, of EVEN ones twice what they would have as JOINED; of MARKED ones the "
            + "sum of its weights more than PLAIN."})
    static void weight() {
        for (int wide = 1; wide <= 6; wide++) {
            for (int high = 1; high <= 6; high++) {
                ShadowBench b = new ShadowBench();
                int plain = 10 + wide * high;
                int[] due = {plain, plain + 100, 2 * (plain + 100), plain};
                for (int kind = 0; kind < 4; kind++) {
                    b.job(kind, wide, high);
                    b.keep(7 - kind, 1, kind, 0);
                    Check.due(b.weight(7 - kind), due[kind]);
                }
                for (int v : new int[] {99, -99}) {
                    for (int square = 0; square < wide * high; square++) {
                        b.mark(3, square, v);
                    }
                    b.keep(0, 1, 3, 0);
                    Check.due(b.weight(0), plain + v * wide * high);
                }
                Check.due(b.weight(4), plain);
            }
        }
    }

    @Says(promise = 36, words = {"IllegalArgumentException: no such SHELF;",
        "IllegalStateException: no JOB is held there."})
    static void weightOfNoJob() {
        for (int d : NO_SHELF) {
            Refused.thrown(Look.SOME, IllegalArgumentException.class, b -> b.weight(d));
        }
        for (int d = 4; d < 8; d++) {
            int one = d;
            Refused.thrown(Look.SOME, IllegalStateException.class, b -> b.weight(one));
        }
        Refused.thrown(Look.FRESH, IllegalStateException.class, b -> b.weight(0));
        // A job that a row has taken the place of.
        ShadowBench b = Calls.with(0, 2, 2);
        b.keep(0, 1, 0, 0);
        Check.due(b.weight(0), 14);
        b.make(0, 4, 0);
        Check.thrown(IllegalStateException.class, () -> b.weight(0));
    }

    @Says(promise = 37, words = {"The FAILURE of the JOB on SHELF d is thrown, and caught: its "
            + "number.", "-1, -11, -12;"})
    static void toss() {
        for (int d : new int[] {0, 7}) {
            for (int kind = 1; kind < 4; kind++) {
                ShadowBench b = Calls.with(kind, 1, 1);
                b.keep(d, 1, 0, 0);
                Check.due(b.toss(d), kind);
                Check.due(b.toss(d), kind);
                Check.due(b.weight(d), new int[] {0, 111, 222, 11}[kind]);
            }
        }
        for (int d : NO_SHELF) {
            Refused.in(Look.SOME, -1, b -> b.toss(d));
        }
        for (int d = 0; d < 8; d++) {
            int one = d;
            Refused.in(Look.FRESH, -11, b -> b.toss(one));
        }
        Refused.in(Look.SOME, -11, b -> b.toss(7));
        for (int d = 4; d < 7; d++) {
            int row = d;
            Refused.in(Look.SOME, -12, b -> b.toss(row));
        }
    }

    @Says(promise = 37, words = "-15: PLAIN ones have none.")
    static void tossOfPlainOnes() {
        for (int edge = 1; edge <= 6; edge++) {
            ShadowBench b = Calls.with(0, edge, edge);
            b.keep(edge, 1, 0, 0);
            Check.due(b.toss(edge), -15);
            Check.due(b.weight(edge), 10 + edge * edge);
        }
        Refused.in(Look.SOME, -15, b -> b.toss(0));
        Refused.in(Look.FULL, -15, b -> b.toss(0));
    }
}
