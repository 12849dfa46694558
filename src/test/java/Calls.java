import java.util.List;

/** The calls that take a board, a picture, a job, a way or a shelf; all else in them is right. */
final class Calls {
    static final int LOW = Integer.MIN_VALUE;
    static final int TOP = Integer.MAX_VALUE;

    interface OfBoard {
        long ask(ShadowBench b, int wide, int high);
    }

    interface OfPicture {
        long ask(ShadowBench b, int wide, int high, long picture);
    }

    interface OfNumber {
        long ask(ShadowBench b, int number);
    }

    interface OfJobsPicture {
        long ask(ShadowBench b, int job, long picture);
    }

    static final List<OfBoard> BOARD = List.of(
            (b, wide, high) -> b.job(0, wide, high),
            (b, wide, high) -> b.shadow(wide, high, 0, 0, 0),
            (b, wide, high) -> b.switches(wide, high, 0),
            (b, wide, high) -> b.switched(wide, high, 0, 0),
            (b, wide, high) -> b.far(wide, high, 0, 0),
            (b, wide, high) -> b.joined(wide, high, 0),
            (b, wide, high) -> b.even(wide, high, 0, false),
            (b, wide, high) -> b.even(wide, high, 0, true),
            (b, wide, high) -> b.turned(wide, high, 0, 1),
            (b, wide, high) -> b.parts(wide, high, 0, 0, 15),
            (b, wide, high) -> b.list(wide, high, 0),
            (b, wide, high) -> b.haunts(1, wide, high),
            (b, wide, high) -> b.ghosts(1, wide, high));

    static final List<OfPicture> PICTURE = List.of(
            (b, wide, high, p) -> b.shadow(wide, high, p, 0, 0),
            (b, wide, high, p) -> b.switches(wide, high, p),
            (b, wide, high, p) -> b.switched(wide, high, p, 0),
            (b, wide, high, p) -> b.far(wide, high, p, 0),
            (b, wide, high, p) -> b.far(wide, high, 0, p),
            (b, wide, high, p) -> b.far(wide, high, p, p),
            (b, wide, high, p) -> b.joined(wide, high, p),
            (b, wide, high, p) -> b.even(wide, high, p, false),
            (b, wide, high, p) -> b.even(wide, high, p, true),
            (b, wide, high, p) -> b.turned(wide, high, p, 0),
            (b, wide, high, p) -> b.turned(wide, high, p, 1),
            (b, wide, high, p) -> b.turned(wide, high, p, 2),
            (b, wide, high, p) -> b.turned(wide, high, p, 3),
            (b, wide, high, p) -> b.parts(wide, high, p, 0, 15),
            (b, wide, high, p) -> b.parts(wide, high, 0, p, 15),
            (b, wide, high, p) -> b.parts(wide, high, p, p, 0),
            (b, wide, high, p) -> b.list(wide, high, p));

    /** The pictures that calls look at by a job's board. */
    static final List<OfJobsPicture> JOBS_PICTURE = List.of(
            (b, job, p) -> b.cast(job, 0, p),
            (b, job, p) -> b.cast(job, 3, p),
            (b, job, p) -> b.fits(job, p),
            (b, job, p) -> b.rank(job, p),
            (b, job, p) -> b.keep(7, 3, job, p));

    /** Those that answer -1 if there is no such job. */
    static final List<OfNumber> JOB = List.of(
            (b, job) -> b.sum(job, 0, 0, 1),
            (b, job) -> b.cast(job, 0, 0),
            (b, job) -> b.untell(job, 2),
            (b, job) -> b.hold(job, 0, 1),
            (b, job) -> b.mark(job, 0, 1),
            (b, job) -> b.told(job, 0, 0),
            (b, job) -> b.told(job, 0, -1),
            (b, job) -> b.fits(job, 0),
            (b, job) -> b.count(job),
            (b, job) -> b.find(job, 0),
            (b, job) -> b.rank(job, 0),
            (b, job) -> b.sure(job, 0),
            (b, job) -> b.clash(job),
            (b, job) -> b.keep(7, 1, job, 0),
            (b, job) -> b.keep(7, 3, job, 0),
            (b, job) -> b.keep(7, 4, job, 0));

    static final List<OfNumber> JOB_OR_THROW = List.of(
            (b, job) -> b.best(job),
            (b, job) -> b.bestOne(job));

    /** Of job 0, a board of three by three in the states of Look. */
    static final List<OfNumber> WAY = List.of(
            (b, way) -> b.sum(0, way, 0, 1),
            (b, way) -> b.cast(0, way, 1),
            (b, way) -> b.untell(0, way),
            (b, way) -> b.told(0, way, 0),
            (b, way) -> b.told(0, way, -1),
            (b, way) -> b.shadow(3, 3, 273, way, 0));

    static final List<OfNumber> SQUARE = List.of(
            (b, square) -> b.hold(3, square, 1),
            (b, square) -> b.mark(3, square, 50),
            (b, square) -> b.sure(3, square));

    /** Those that answer -1 if there is no such shelf. */
    static final List<OfNumber> SHELF = List.of(
            (b, d) -> b.keep(d, 0, 0, 0),
            (b, d) -> b.keep(d, 1, 0, 0),
            (b, d) -> b.keep(d, 3, 0, 0),
            (b, d) -> b.keep(d, 4, 0, 0),
            (b, d) -> b.make(d, 3, 1),
            (b, d) -> b.make(d, 4, 1),
            (b, d) -> b.copy(d, 0, 4, 0, 1),
            (b, d) -> b.copy(4, 0, d, 0, 1),
            (b, d) -> b.layer(d, 0),
            (b, d) -> b.toss(d));

    static final List<OfNumber> SHELF_OR_THROW = List.of(
            (b, d) -> b.element(d, 0),
            (b, d) -> b.weight(d));

    private Calls() {
    }

    /** A picture, row by row from row 0; '#' is a one. */
    static long pic(String... rows) {
        long all = 0;
        int square = 0;
        for (String row : rows) {
            for (char c : row.toCharArray()) {
                all |= c == '#' ? 1L << square : 0L;
                square++;
            }
        }
        return all;
    }

    static long full(int wide, int high) {
        return (1L << (wide * high)) - 1;
    }

    /** A bench with one job, of which nothing was told. */
    static ShadowBench with(int kind, int wide, int high) {
        ShadowBench b = new ShadowBench();
        Check.due(b.job(kind, wide, high), 0);
        return b;
    }

    /** A bench with one job whose rows and columns are told by a picture. */
    static ShadowBench toldBy(int kind, int wide, int high, long picture) {
        ShadowBench b = with(kind, wide, high);
        Check.due(b.cast(0, 0, picture), Long.bitCount(picture));
        Check.due(b.cast(0, 1, picture), Long.bitCount(picture));
        return b;
    }
}
