/**
 * The edge of searches: 200000 rows may be tried. A search through all pictures enters some number
 * of rows' beginnings and tries all 64 numbers of a row (board 6 wide) at each, so it tries just
 * 200000 rows if it enters 3125, and would try 200064 if it enters 3126.
 */
final class SearchEdges {
    /** Pictures by whose sums 200000 rows are tried in all: the picture, squares held at 1, at 0. */
    private static final long[][] JUST_ENOUGH = {{8820347110L, 0, 2684354816L},
        {34368738074L, 524288, 17251172480L}, {66706063349L, 0, 0}, {59705914783L, 0, 0}};
    /** How many fit these, of the kinds in their order. */
    private static final int[][] FITTING = {{933, 10, 0, 933}, {693, 0, 0, 693},
        {284, 208, 0, 284}, {64, 18, 0, 64}};
    /** Those by whose sums 200064 would be. */
    private static final long[][] TOO_MANY = {{58617591223L, 4831838464L, 32776},
        {63476559327L, 42951770113L, 268435456}, {54727426656L, 0, 0}, {25445518L, 0, 0}};

    private SearchEdges() {
    }

    private static ShadowBench benchOf(int kind, long[] one) {
        ShadowBench b = Calls.toldBy(kind, 6, 6, one[0]);
        for (int square = 0; square < 36; square++) {
            if ((one[1] >> square & 1) == 1) {
                b.hold(0, square, 1);
            } else if ((one[2] >> square & 1) == 1) {
                b.hold(0, square, 0);
            }
        }
        return b;
    }

    @Says(promise = 0, words = {"it may try 200000 rows", "where one more would be tried it is "
            + "SPENT."})
    static void twoHundredThousand() {
        for (int kind = 0; kind < 4; kind++) {
            for (int i = 0; i < JUST_ENOUGH.length; i++) {
                Check.due(benchOf(kind, JUST_ENOUGH[i]).count(0), FITTING[i][kind]);
            }
            for (long[] one : TOO_MANY) {
                Check.due(benchOf(kind, one).count(0), -5);
            }
        }
        // A board five wide: 10, 4, 5, 5 and 5 rows go on, so 6251 are entered, with 32 tries each.
        ShadowBench narrow = Calls.with(0, 5, 6);
        int[] sums = {2, 1, 1, 4, 4, 1};
        for (int line = 0; line < 6; line++) {
            narrow.sum(0, 0, line, sums[line]);
            narrow.sum(0, 1, line, 6);
        }
        narrow.hold(0, 5, 0);
        Check.due(narrow.count(0), -5);
        narrow.hold(0, 29, 1);
        Check.due(narrow.count(0), -5);
        narrow.hold(0, 20, 0);
        Check.due(narrow.count(0), 0);
    }

    @Says(promise = 0, words = "SPENT: a call that goes through PICTURES that FIT (count(), sure(), "
            + "best() through all, find(), rank() up to the one that is asked for)")
    static void throughAllOrUpToOne() {
        for (int i = 0; i < JUST_ENOUGH.length; i++) {
            ShadowBench b = benchOf(3, JUST_ENOUGH[i]);
            int count = FITTING[i][3];
            Check.due(b.count(0), count);
            Check.due(b.find(0, count), -2);
            Check.due(b.rank(0, b.find(0, count - 1)), count - 1);
            Check.isTrue("square 0 is told", b.sure(0, 0) >= 0);
            Check.due(b.best(0), 0);
            Check.due(b.bestOne(0), b.find(0, 0));
        }
        for (long[] one : TOO_MANY) {
            ShadowBench b = benchOf(3, one);
            Check.due(b.count(0), -5);
            Check.due(b.find(0, 200000), -5);
            Check.due(b.find(0, Calls.TOP), -5);
            for (int square = 0; square < 36; square++) {
                Check.due(b.sure(0, square), -5);
            }
            Check.thrown(IllegalStateException.class, () -> b.best(0));
            Check.thrown(IllegalStateException.class, () -> b.bestOne(0));
            // The first ones are found all the same.
            for (int i = 0; i < 12; i++) {
                Check.due(b.rank(0, b.find(0, i)), i);
            }
        }
        upToTheOneAskedFor();
    }

    /** The one that is asked for is met by row 200000, or would be by row 200001. */
    private static void upToTheOneAskedFor() {
        isFound(0, 6, 5, 1016708425L, 750, 760204933L);
        isFound(3, 6, 6, 30526136484L, 1039, 47756212242L);
        isFound(1, 6, 6, 20132067310L, 406, 13686007795L);
        isFound(1, 6, 6, 59852697407L, 180, 60111580031L);
        isSpent(0, 6, 5, 815239970L, 1298, 808377380L);
        isSpent(3, 5, 6, 1019917173L, 501, 1016993749L);
        isSpent(1, 6, 6, 34292591613L, 0, 34292591613L);
        isSpent(1, 6, 6, 29905065854L, 0, 65288218463L);
    }

    private static void isFound(int kind, int wide, int high, long by, int i, long picture) {
        ShadowBench b = Calls.toldBy(kind, wide, high, by);
        Check.due(b.find(0, i), picture);
        Check.due(b.rank(0, picture), i);
        Check.due(b.find(0, i + 1), -5);
        Check.due(b.count(0), -5);
        Check.due(b.rank(0, b.find(0, i - 1)), i - 1);
    }

    private static void isSpent(int kind, int wide, int high, long by, int i, long picture) {
        ShadowBench b = Calls.toldBy(kind, wide, high, by);
        Check.due(b.fits(0, picture), 1);
        Check.due(b.rank(0, picture), -5);
        if (i > 0) {
            Check.due(b.find(0, i), -5);
            Check.due(b.rank(0, b.find(0, i - 1)), i - 1);
        }
    }

    @Says(promise = 0, words = "looks for them row by row (row 0 first, each row's numbers from 0 "
            + "up)")
    static void rowsInTheirOrder() {
        // Five rows with five numbers each that go on, but one with four: where that one is first,
        // 1 + 4 + 20 + 100 + 500 + 2500 = 3125 are entered; where it is second, 1 + 5 + 20 + ..
        Check.due(fives(0, 0).count(0), 0);
        Check.due(fives(0, 1).count(0), -5);
        for (int row = 2; row < 5; row++) {
            Check.due(fives(0, row).count(0), -5);
        }
        // The order of what is found: by row 0, and by a row's number, where bit 0 is column 0.
        ShadowBench b = Calls.toldBy(0, 3, 2, Calls.pic("##.", "#.."));
        Check.due(b.find(0, 0), Calls.pic("##.", "#.."));
        Check.due(b.find(0, 1), -2);
        b = Calls.toldBy(0, 3, 2, Calls.pic("#..", ".##"));
        Check.due(b.find(0, 0), Calls.pic("#..", ".##"));
        Check.due(b.find(0, 1), Calls.pic(".#.", "#.#"));
        Check.due(b.find(0, 2), Calls.pic("..#", "##."));
        Check.due(b.find(0, 3), -2);
    }

    /** All rows have one free one in five columns, row 'least' in four; no column is ever full. */
    private static ShadowBench fives(int how, int least) {
        ShadowBench b = Calls.with(3, 6, 6);
        for (int x = 0; x < 6; x++) {
            b.sum(0, 1, x, how == 0 && x == 0 ? 0 : 6);
        }
        for (int y = 0; y < 6; y++) {
            b.sum(0, 0, y, how == 2 ? 2 : 1);
            if (how > 0) {
                b.hold(0, 6 * y, how - 1);
            }
        }
        b.hold(0, 6 * least + 3, 0);
        return b;
    }

    @Says(promise = 0, words = "going on only with rows whose sum is as told, HELD SQUARES are "
            + "right and no column has more than told by then;")
    static void goingOn() {
        // Column 0 is barred as it is told 0, as its squares are held at 0, or all held at 1.
        for (int how = 0; how < 3; how++) {
            Check.due(fives(how, 0).count(0), 0);
            Check.due(fives(how, 0).find(0, 0), -2);
            Check.due(fives(how, 0).sure(0, 35), -2);
            Check.due(fives(how, 1).count(0), -5);
            Check.due(fives(how, 1).find(0, 0), -5);
            Check.due(fives(how, 1).sure(0, 35), -5);
            // A square less held is one row's number more that goes on.
            ShadowBench less = fives(how, 0);
            less.hold(0, 3, 2);
            Check.due(less.count(0), -5);
            // By another sum few rows of row 1 go on, or none.
            less.sum(0, 0, 1, 6);
            Check.due(less.count(0), 0);
        }
        columnsByThen();
        looksNotAhead();
    }

    /** A column is full where it has what is told, not before, and rows above have counted. */
    private static void columnsByThen() {
        // Permutations: 1 + 6 + 30 + 120 + 360 + 720 entered, all in all 1237.
        ShadowBench b = Calls.toldBy(0, 6, 6, 1L | 1L << 7 | 1L << 14 | 1L << 21 | 1L << 28 | 1L << 35);
        Check.due(b.count(0), 720);
        // Each column of two: 67950 fit, far too many to go through.
        ShadowBench twos = Calls.with(0, 6, 6);
        for (int line = 0; line < 6; line++) {
            twos.sum(0, 0, line, 2);
            twos.sum(0, 1, line, 2);
        }
        Check.due(twos.count(0), -5);
        // Columns 2 1 1 1 1 0: what is taken above bars below, or else 200000 would not do.
        int[] columns = {2, 1, 1, 1, 1, 0};
        ShadowBench few = Calls.with(0, 6, 6);
        for (int line = 0; line < 6; line++) {
            few.sum(0, 0, line, 1);
            few.sum(0, 1, line, columns[line]);
        }
        Check.due(few.count(0), 360);
    }

    /** Nothing but these rules spares a row: not a clash, a kind, a slant, or what is left below. */
    private static void looksNotAhead() {
        ShadowBench b = fives(0, 1);
        Check.due(b.clash(0), 0);
        Check.due(b.count(0), -5);
        for (int kind = 0; kind < 4; kind++) {
            ShadowBench slants = benchOf(kind, TOO_MANY[3]);
            slants.cast(0, 2, 0);
            slants.cast(0, 3, 0);
            Check.due(slants.count(0), -5);
            Check.due(slants.sure(0, 0), -5);
            Check.due(slants.find(0, 0), -5);
        }
        // A last row that can't be is seen by none of the rows above it.
        ShadowBench last = fives(0, 1);
        last.hold(0, 35, 1);
        last.hold(0, 34, 1);
        Check.due(last.count(0), -5);
    }

    @Says(promise = 0, words = "(whether they go on or not);")
    static void triedWhetherTheyGoOnOrNot() {
        // Of the 200000 rows here few go on: 1 + 4 + 20 + 100 + 500 + 2500, and those of row 5.
        ShadowBench b = fives(0, 0);
        for (int x = 0; x < 6; x++) {
            b.hold(0, 30 + x, 1);
        }
        // Now none of row 5 goes on, and they are tried all the same.
        Check.due(b.count(0), 0);
        b.hold(0, 3, 2);
        Check.due(b.count(0), -5);
    }

    @Says(promise = 0, words = "A refused call changes nothing.")
    static void spentChangesNothing() {
        Look.State spent = b -> {
            b.job(0, 6, 6);
            for (int line = 0; line < 6; line++) {
                b.sum(0, 0, line, 2);
                b.sum(0, 1, line, 2);
            }
            b.job(0, 3, 3);
            b.cast(1, 0, 273);
            b.cast(1, 1, 273);
        };
        for (int call = 0; call < 5; call++) {
            ShadowBench b = new ShadowBench();
            spent.build(b);
            long answer = call == 0 ? b.count(0) : call == 1 ? b.find(0, 199999)
                    : call == 2 ? b.sure(0, 0) : call == 3 ? b.rank(0, lastOfTwos())
                    : b.far(6, 6, 21878446936L, 13445056201L);
            Check.due(answer, -5);
            Check.due(b.count(1), 6);
            Check.due(b.find(1, 5), 84);
            Check.due(b.rank(1, 84), 5);
            Check.due(b.sure(1, 0), 2);
            Check.due(b.far(3, 3, 273, 84), 1);
            Check.due(b.far(6, 6, 21878446936L, 13700781769L), 6);
            Check.due(b.find(0, 0), firstOfTwos());
            Check.due(b.told(0, 0, 5), 2);
            Check.due(b.count(0), -5);
        }
    }

    private static long firstOfTwos() {
        return Calls.pic("##....", "##....", "..##..", "..##..", "....##", "....##");
    }

    private static long lastOfTwos() {
        return Calls.pic("....##", "....##", "..##..", "..##..", "##....", "##....");
    }
}
