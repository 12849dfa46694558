/** The boundary cases of promises 9 to 17: shadows, and the pictures that fit a job. */
final class FitEdges {
    private static final int LOW = Calls.LOW;
    private static final int TOP = Calls.TOP;
    private static final long[] NO_PICTURE = {512, 513, -1, -512, Long.MIN_VALUE, Long.MAX_VALUE};
    private static final int[] NO_JOB = {-1, 5, 8, LOW, TOP};
    /** The pictures that fit three rows and three columns of one each, in their order. */
    private static final long[] SIX = {273, 161, 266, 98, 140, 84};
    /** Sums by whose search more than 200000 rows would be tried. */
    private static final long GREAT = 25445518L;

    private FitEdges() {
    }

    /** Job 0 is spent by all calls that go through all, job 1 is a little one. */
    private static void greatAndLittle(ShadowBench b, int kind) {
        b.job(kind, 6, 6);
        b.cast(0, 0, GREAT);
        b.cast(0, 1, GREAT);
        b.job(kind, 2, 2);
    }

    @Says(promise = 9, words = {"The SHADOW of a PICTURE of a BOARD: a LINE of a WAY.", "-1."})
    static void shadow() {
        ShadowBench b = new ShadowBench();
        int[] lines = {2, 4, 5, 5};
        for (int way = 0; way < 4; way++) {
            int theWay = way;
            int last = lines[way] - 1;
            Check.due(b.shadow(4, 2, 255, way, 0), new int[] {4, 2, 1, 1}[way]);
            Check.due(b.shadow(4, 2, 255, way, last), new int[] {4, 2, 1, 1}[way]);
            Check.due(b.shadow(4, 2, 0, way, last), 0);
            for (int line : new int[] {-1, lines[way], LOW, TOP}) {
                Refused.in(Look.SOME, -1, x -> x.shadow(4, 2, 255, theWay, line));
            }
            for (long p : new long[] {256, -1, Long.MIN_VALUE}) {
                Refused.in(Look.SOME, -1, x -> x.shadow(4, 2, p, theWay, 0));
            }
        }
        for (int way : new int[] {-1, 4, LOW, TOP}) {
            Refused.in(Look.SOME, -1, x -> x.shadow(4, 2, 255, way, 0));
        }
        for (int edge : new int[] {0, 7, -1, LOW, TOP}) {
            Refused.in(Look.SOME, -1, x -> x.shadow(edge, 2, 0, 0, 0));
            Refused.in(Look.SOME, -1, x -> x.shadow(4, edge, 0, 0, 0));
        }
        // The greatest board's corners.
        long full = Calls.full(6, 6);
        Check.due(b.shadow(6, 6, full, 2, 10), 1);
        Check.due(b.shadow(6, 6, full, 2, 5), 6);
        Check.due(b.shadow(6, 6, 1L << 5, 2, 10), 1);
        Check.due(b.shadow(6, 6, 1L << 30, 2, 0), 1);
        Check.due(b.shadow(6, 6, 1L << 35, 3, 10), 1);
        Check.due(b.shadow(6, 6, full, 2, 11), -1);
    }

    @Says(promise = 10, words = {"Whether a PICTURE FITS.", "-1."})
    static void fits() {
        for (int kind = 0; kind < 4; kind++) {
            ShadowBench b = Calls.with(kind, 6, 6);
            Check.due(b.fits(0, 0), 1);
            Check.due(b.fits(0, 1), 0);
            Check.due(b.fits(0, Calls.full(6, 6)), 0);
            Check.due(b.fits(0, Calls.full(6, 6) + 1), -1);
            b.cast(0, 0, Calls.full(6, 6));
            b.cast(0, 1, Calls.full(6, 6));
            Check.due(b.fits(0, Calls.full(6, 6)), 1);
            Check.due(b.fits(0, 0), 0);
        }
        eachSlantAlone();
        for (long p : NO_PICTURE) {
            Refused.in(Look.SOME, -1, b -> b.fits(0, p));
        }
        for (int job : NO_JOB) {
            Refused.in(Look.SOME, -1, b -> b.fits(job, 0));
        }
        // Whether it fits is told without a search, so never by -5.
        ShadowBench great = Calls.toldBy(0, 6, 6, GREAT);
        Check.due(great.count(0), -5);
        Check.due(great.fits(0, GREAT), 1);
        Check.due(great.fits(0, 0), 0);
    }

    /** On the greatest board, where a way has as many lines as can be: a line of one way alone. */
    private static void eachSlantAlone() {
        for (int square = 0; square < 36; square++) {
            long one = 1L << square;
            for (int way = 2; way < 4; way++) {
                ShadowBench b = Calls.toldBy(0, 6, 6, one);
                Check.due(b.cast(0, way, one), 1);
                Check.due(b.fits(0, one), 1);
                Check.due(b.count(0), 1);
                int line = way == 2 ? square % 6 - square / 6 + 5 : square % 6 + square / 6;
                b.sum(0, way, line, 0);
                Check.due(b.fits(0, one), 0);
                b.sum(0, way, (line + 1) % 11, 1);
                Check.due(b.fits(0, one), 0);
                Check.due(b.untell(0, way), 1);
                Check.due(b.fits(0, one), 1);
            }
        }
    }

    @Says(promise = 11, words = "How many PICTURES FIT.")
    static void count() {
        // None, one, all of the six, and one where all squares are ones.
        ShadowBench b = Calls.toldBy(0, 3, 3, 273);
        Check.due(b.count(0), 6);
        b.sum(0, 0, 0, 2);
        Check.due(b.count(0), 0);
        b.sum(0, 0, 0, 0);
        Check.due(b.count(0), 0);
        Check.due(Calls.with(0, 1, 1).count(0), 1);
        Check.due(Calls.toldBy(0, 1, 1, 1).count(0), 1);
        Check.due(Calls.toldBy(0, 6, 6, Calls.full(6, 6)).count(0), 1);
        Check.due(Calls.toldBy(2, 6, 6, Calls.full(6, 6)).count(0), 1);
        // A sum of six in a line of fewer squares fits nothing.
        for (int edge = 1; edge < 6; edge++) {
            ShadowBench narrow = Calls.toldBy(0, edge, edge, Calls.full(edge, edge));
            Check.due(narrow.count(0), 1);
            narrow.sum(0, 0, edge - 1, 6);
            Check.due(narrow.count(0), 0);
            narrow.sum(0, 1, edge - 1, 6);
            Check.due(narrow.count(0), 0);
        }
        // A slant that asks for more than it has.
        ShadowBench slant = Calls.with(0, 3, 3);
        slant.sum(0, 2, 0, 2);
        Check.due(slant.count(0), 0);
    }

    @Says(promise = 11, words = "-1, -5.")
    static void countOfNoneAndSpent() {
        for (int job : NO_JOB) {
            Refused.in(Look.SOME, -1, b -> b.count(job));
        }
        for (int kind = 0; kind < 4; kind++) {
            ShadowBench b = new ShadowBench();
            greatAndLittle(b, kind);
            Check.due(b.count(0), -5);
            Check.due(b.count(1), 1);
            Check.due(b.count(0), -5);
            Check.due(b.count(2), -1);
        }
    }

    @Says(promise = 12, words = "PICTURE i, from 0, of those that FIT, rows compared one by one "
            + "from row 0 on.")
    static void find() {
        ShadowBench b = Calls.toldBy(0, 3, 3, 273);
        for (int i = 0; i < 6; i++) {
            Check.due(b.find(0, i), SIX[i]);
        }
        b.hold(0, 8, 0);
        long[] four = {161, 98, 140, 84};
        for (int i = 0; i < 4; i++) {
            Check.due(b.find(0, i), four[i]);
        }
        Check.due(Calls.with(0, 6, 6).find(0, 0), 0);
        Check.due(Calls.toldBy(0, 6, 6, 1L << 35).find(0, 0), 1L << 35);
        Check.due(Calls.toldBy(0, 6, 6, Calls.full(6, 6)).find(0, 0), Calls.full(6, 6));
        // Row 0 counts before row 1, though row 1 has the greater bits.
        ShadowBench two = Calls.toldBy(0, 2, 2, 9);
        Check.due(two.find(0, 0), 9);
        Check.due(two.find(0, 1), 6);
    }

    @Says(promise = 12, words = "-1 (i below 0),")
    static void findBelowNought() {
        for (int i : new int[] {-1, -2, LOW}) {
            Refused.in(Look.SOME, -1, b -> b.find(0, i));
            Refused.in(Look.FULL, -1, b -> b.find(5, i));
        }
        for (int job : NO_JOB) {
            Refused.in(Look.SOME, -1, b -> b.find(job, 0));
            Refused.in(Look.SOME, -1, b -> b.find(job, -1));
        }
        // Below 0 comes first also where the search would be spent.
        Check.due(Calls.toldBy(0, 6, 6, GREAT).find(0, -1), -1);
    }

    @Says(promise = 12, words = "-2: there are not so many; -5.")
    static void findBeyondTheLast() {
        ShadowBench b = Calls.toldBy(0, 3, 3, 273);
        Check.due(b.find(0, 5), 84);
        Check.due(b.find(0, 6), -2);
        Check.due(b.find(0, 7), -2);
        Check.due(b.find(0, TOP), -2);
        Check.due(b.find(0, 5), 84);
        Check.due(Calls.with(0, 3, 3).find(0, 1), -2);
        Check.due(Calls.toldBy(1, 3, 3, 273).find(0, 0), -2);
        Refused.in(Look.SOME, -2, x -> x.find(0, 1));
        Refused.in(Look.SOME, -2, x -> x.find(3, 6));
        Refused.in(Look.FULL, -2, x -> x.find(5, 0));
        ShadowBench great = Calls.toldBy(0, 6, 6, GREAT);
        Check.due(great.find(0, 1203), -5);
        Check.due(great.find(0, TOP), -5);
        Check.due(great.rank(0, great.find(0, 0)), 0);
    }

    @Says(promise = 13, words = "How many that FIT come before a PICTURE that FITS, in that order.")
    static void rank() {
        ShadowBench b = Calls.toldBy(0, 3, 3, 273);
        for (int i = 0; i < 6; i++) {
            Check.due(b.rank(0, SIX[i]), i);
        }
        b.hold(0, 0, 0);
        Check.due(b.rank(0, 266), 0);
        Check.due(b.rank(0, 84), 3);
        Check.due(Calls.with(0, 6, 6).rank(0, 0), 0);
        Check.due(Calls.toldBy(0, 6, 6, Calls.full(6, 6)).rank(0, Calls.full(6, 6)), 0);
        // Only those that fit are counted: none of four before this one hangs together.
        long together = Calls.pic(".##", "##.", "#..");
        Check.due(Calls.toldBy(0, 3, 3, together).rank(0, together), 4);
        Check.due(Calls.toldBy(1, 3, 3, together).rank(0, together), 0);
    }

    @Says(promise = 13, words = {"-1;", "-2: it doesn't FIT; -5."})
    static void rankOfAnother() {
        for (long p : NO_PICTURE) {
            Refused.in(Look.SOME, -1, b -> b.rank(0, p));
        }
        for (int job : NO_JOB) {
            Refused.in(Look.SOME, -1, b -> b.rank(job, 273));
        }
        for (long p : new long[] {0, 511, 272, 274, 84}) {
            Refused.in(Look.SOME, -2, b -> b.rank(0, p));
        }
        Refused.in(Look.SOME, -2, b -> b.rank(1, 0));
        Refused.in(Look.FULL, -2, b -> b.rank(5, 0));
        // Where the search is spent: one that doesn't fit is refused by -2, one far on by -5.
        ShadowBench b = Calls.toldBy(0, 6, 5, 815239970L);
        Check.due(b.rank(0, 0), -2);
        Check.due(b.rank(0, 808377380L), -5);
        Check.due(b.rank(0, 1L << 30), -1);
    }

    @Says(promise = 14, words = "A SQUARE in all PICTURES that FIT: 0 or 1 in all, 2 unlike ones.")
    static void sure() {
        ShadowBench b = Calls.toldBy(0, 3, 3, 273);
        int[] one = {1, 0, 0, 0, 2, 2, 0, 2, 2};
        for (int square = 0; square < 9; square++) {
            Check.due(b.sure(0, square), 2);
        }
        b.hold(0, 0, 1);
        for (int square = 0; square < 9; square++) {
            Check.due(b.sure(0, square), one[square]);
        }
        b.hold(0, 4, 1);
        for (int square = 0; square < 9; square++) {
            Check.due(b.sure(0, square), 273 >> square & 1);
        }
        for (int square : new int[] {0, 35}) {
            Check.due(Calls.with(0, 6, 6).sure(0, square), 0);
            Check.due(Calls.toldBy(0, 6, 6, Calls.full(6, 6)).sure(0, square), 1);
        }
        // All but one of them have it, or have it not: unlike ones.
        ShadowBench row = Calls.toldBy(0, 2, 2, 9);
        for (int square = 0; square < 4; square++) {
            Check.due(row.sure(0, square), 2);
        }
    }

    @Says(promise = 14, words = {"-1;", "-2: none FITS; -5."})
    static void sureOfNone() {
        for (int square : new int[] {9, -1, 36, 64, LOW, TOP}) {
            Refused.in(Look.SOME, -1, b -> b.sure(0, square));
        }
        for (int job : NO_JOB) {
            Refused.in(Look.SOME, -1, b -> b.sure(job, 0));
        }
        for (int square = 0; square < 6; square++) {
            int one = square;
            Refused.in(Look.FULL, -2, b -> b.sure(5, one));
        }
        Refused.in(Look.FULL, -1, b -> b.sure(5, 6));
        Check.due(Calls.toldBy(1, 3, 3, 273).sure(0, 0), -2);
        ShadowBench great = Calls.toldBy(0, 6, 6, GREAT);
        Check.due(great.sure(0, 0), -5);
        Check.due(great.sure(0, 35), -5);
        Check.due(great.sure(0, 36), -1);
    }

    @Says(promise = 15, words = {"The CLASH of SUMS: the least k from 0 on;",
        "(HELD SQUARES, KIND, WAYS 2, 3 don't matter.)"})
    static void clash() {
        for (int kind = 0; kind < 4; kind++) {
            // Rows 2 0, columns 0 0 2: one column is too much, and so are two.
            ShadowBench b = Calls.with(kind, 3, 2);
            b.sum(0, 0, 0, 2);
            Check.due(b.clash(0), 0);
            b.sum(0, 1, 2, 2);
            Check.due(b.clash(0), 1);
            b.hold(0, 0, 1);
            b.sum(0, 2, 0, 6);
            b.sum(0, 3, 3, 6);
            Check.due(b.clash(0), 1);
            // Rows 1 1: as many as there is room for.
            b.sum(0, 0, 0, 1);
            b.sum(0, 0, 1, 1);
            Check.due(b.clash(0), -2);
            Check.due(b.count(0), 0);
        }
        // Unlike sums in all come first, though a column is too much as well.
        ShadowBench b = Calls.with(0, 3, 2);
        b.sum(0, 1, 0, 6);
        Check.due(b.clash(0), 0);
        b.sum(0, 0, 0, 6);
        Check.due(b.clash(0), 1);
    }

    @Says(promise = 15, words = {"-2: there is none.", "-1."})
    static void noClash() {
        for (long p : SIX) {
            Check.due(Calls.toldBy(0, 3, 3, p).clash(0), -2);
        }
        Check.due(Calls.with(0, 1, 1).clash(0), -2);
        Check.due(Calls.toldBy(0, 6, 6, Calls.full(6, 6)).clash(0), -2);
        Check.due(Calls.toldBy(0, 6, 6, GREAT).clash(0), -2);
        Refused.in(Look.SOME, -2, b -> b.clash(0));
        for (int job : NO_JOB) {
            Refused.in(Look.SOME, -1, b -> b.clash(job));
        }
    }

    @Says(promise = 16, words = "The greatest sum of weights of the ones of a PICTURE that FITS a "
            + "MARKED JOB.")
    static void best() {
        ShadowBench b = Calls.toldBy(3, 3, 3, 273);
        Check.due(b.best(0), 0);
        for (int i = 0; i < 6; i++) {
            // Each of the six by itself, above 0 and below 0.
            for (int v : new int[] {99, -1}) {
                ShadowBench one = Calls.toldBy(3, 3, 3, 273);
                for (int square = 0; square < 9; square++) {
                    one.mark(0, square, (SIX[i] >> square & 1) == 1 ? v : v - 1);
                }
                Check.due(one.best(0), 3 * v);
                Check.due(one.bestOne(0), SIX[i]);
            }
        }
        for (int square = 0; square < 9; square++) {
            b.mark(0, square, -99);
        }
        Check.due(b.best(0), -297);
        b.mark(0, 8, 99);
        Check.due(b.best(0), -99);
        // A picture without ones.
        ShadowBench none = Calls.with(3, 6, 6);
        none.mark(0, 0, 99);
        Check.due(none.best(0), 0);
    }

    @Says(promise = 16, words = {"IllegalArgumentException: no such JOB, or it is not MARKED;",
        "IllegalStateException: none FITS, or SPENT."})
    static void bestOfNone() {
        for (int job : new int[] {-1, 5, 0, 1, 2, 4, LOW, TOP}) {
            Refused.thrown(Look.SOME, IllegalArgumentException.class, b -> b.best(job));
        }
        Refused.thrown(Look.FULL, IllegalArgumentException.class, b -> b.best(8));
        Refused.thrown(Look.FULL, IllegalStateException.class, b -> b.best(5));
        for (int kind = 0; kind < 4; kind++) {
            ShadowBench b = new ShadowBench();
            greatAndLittle(b, kind);
            Check.thrown(kind == 3 ? IllegalStateException.class : IllegalArgumentException.class,
                    () -> b.best(0));
            Check.due(b.count(1), 1);
        }
    }

    @Says(promise = 17, words = "The first PICTURE (as find() has them) with that sum.")
    static void bestOne() {
        ShadowBench b = Calls.toldBy(3, 3, 3, 273);
        Check.due(b.bestOne(0), 273);
        // 266 and 84 alone are the greatest: the first of them.
        b.mark(0, 1, 4);
        b.mark(0, 2, 2);
        b.mark(0, 4, 2);
        b.mark(0, 5, -4);
        Check.due(b.bestOne(0), 266);
        b.mark(0, 2, 3);
        Check.due(b.bestOne(0), 84);
        b.mark(0, 2, 1);
        Check.due(b.bestOne(0), 266);
        for (int square = 0; square < 9; square++) {
            b.mark(0, square, -99);
        }
        Check.due(b.bestOne(0), 273);
    }

    @Says(promise = 17, words = "As best().")
    static void bestOneOfNone() {
        for (int job : new int[] {-1, 5, 0, 1, 2, 4, LOW, TOP}) {
            Refused.thrown(Look.SOME, IllegalArgumentException.class, b -> b.bestOne(job));
        }
        Refused.thrown(Look.FULL, IllegalArgumentException.class, b -> b.bestOne(8));
        Refused.thrown(Look.FULL, IllegalStateException.class, b -> b.bestOne(5));
        for (int kind = 0; kind < 4; kind++) {
            ShadowBench b = new ShadowBench();
            greatAndLittle(b, kind);
            Check.thrown(kind == 3 ? IllegalStateException.class : IllegalArgumentException.class,
                    () -> b.bestOne(0));
            Check.due(b.count(1), 1);
        }
    }
}
