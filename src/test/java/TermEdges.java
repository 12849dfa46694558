import java.util.List;

/** The boundary cases that the document's "What it is" and "Terms" name, searches aside. */
final class TermEdges {
    private static final int LOW = Calls.LOW;
    private static final int TOP = Calls.TOP;
    private static final int[] NO_EDGE = {0, 7, -1, -6, LOW, TOP};

    private TermEdges() {
    }

    @Says(promise = 0, words = "An object is used for at most 512 calls after it has been made; "
            + "what later calls answer is free.")
    static void the512thCall() {
        ShadowBench b = Calls.toldBy(3, 3, 3, 273);
        // Three calls were made; these rows, jobs and things are made anew by each of 508 others.
        for (int call = 4; call <= 511; call++) {
            long due = call % 4 == 0 ? b.keep(call % 8, 1, 0, 0) : call % 4 == 1
                    ? b.make(call % 8, 3 + call % 2, 60) : call % 4 == 2
                    ? b.hold(0, 8, call % 8 == 2 ? 1 : 2) % 1 : b.far(3, 3, 273, 84) - 1;
            Check.due(due, 0);
        }
        Check.due(b.find(0, 5), 84);
    }

    @Says(promise = 0, words = "A BOARD is W wide and H high (1 .. 6 each);")
    static void boards() {
        for (int wide = 1; wide <= 6; wide++) {
            for (int high = 1; high <= 6; high++) {
                int ghosts = (wide - 1) * high;
                long[] due = {0, 0, 0, -2, 0, 1, 1, 1, 0, -2, 1, ghosts > 0 ? 1 : 0, ghosts};
                ShadowBench b = new ShadowBench();
                for (int i = 0; i < due.length; i++) {
                    Check.due(Calls.BOARD.get(i).ask(b, wide, high), due[i]);
                }
                Check.due(b.told(0, 0, -1), high);
                Check.due(b.told(0, 1, -1), wide);
            }
        }
        for (Calls.OfBoard call : Calls.BOARD) {
            for (int edge : NO_EDGE) {
                Refused.in(Look.SOME, -1, b -> call.ask(b, edge, 3));
                Refused.in(Look.SOME, -1, b -> call.ask(b, 3, edge));
                Refused.in(Look.FRESH, -1, b -> call.ask(b, edge, edge));
            }
        }
    }

    @Says(promise = 0, words = "SQUARE x, y (0 .. W - 1, 0 .. H - 1) has the number y W + x.")
    static void squares() {
        for (int wide = 1; wide <= 6; wide++) {
            for (int high = 1; high <= 6; high++) {
                squaresOf(wide, high);
            }
        }
        for (Calls.OfNumber call : Calls.SQUARE) {
            for (int square : new int[] {9, -1, 10, 36, 64, LOW, TOP}) {
                Refused.in(Look.SOME, -1, b -> call.ask(b, square));
            }
        }
    }

    /** A square that is held at 1 is the only one where the one of row y and column x can be. */
    private static void squaresOf(int wide, int high) {
        for (int y = 0; y < high; y++) {
            for (int x = 0; x < wide; x++) {
                int square = y * wide + x;
                ShadowBench b = Calls.with(3, wide, high);
                Check.due(b.sum(0, 0, y, 1), 0);
                Check.due(b.sum(0, 1, x, 1), 0);
                Check.due(b.hold(0, square, 1), 2);
                Check.due(b.mark(0, square, 7), 1);
                Check.due(b.find(0, 0), 1L << square);
                Check.due(b.sure(0, square), 1);
                Check.due(b.best(0), 7);
                Check.due(b.hold(0, wide * high, 1), -1);
                Check.due(b.mark(0, wide * high, 1), -1);
                Check.due(b.sure(0, wide * high), -1);
            }
        }
    }

    @Says(promise = 0, words = "A PICTURE has 0 or 1 at each SQUARE: a long: bit y W + x.")
    static void pictures() {
        for (int wide = 1; wide <= 6; wide++) {
            for (int high = 1; high <= 6; high++) {
                picturesOf(wide, high);
            }
        }
        long[] none = {512, -1, Long.MIN_VALUE, Long.MAX_VALUE, 1L << 32, 1L << 36, 1L << 62, -512};
        for (long p : none) {
            for (Calls.OfPicture call : Calls.PICTURE) {
                Refused.in(Look.SOME, -1, b -> call.ask(b, 3, 3, p));
            }
            for (Calls.OfJobsPicture call : Calls.JOBS_PICTURE) {
                Refused.in(Look.SOME, -1, b -> call.ask(b, 0, p));
            }
        }
    }

    private static void picturesOf(int wide, int high) {
        long full = Calls.full(wide, high);
        int squares = wide * high;
        long[] outside = {full + 1, full + 2, -1, ~full, Long.MIN_VALUE, Long.MIN_VALUE | 1};
        ShadowBench b = new ShadowBench();
        Check.due(b.job(0, wide, high), 0);
        Check.due(b.shadow(wide, high, full, 0, high - 1), wide);
        Check.due(b.switches(wide, high, full), 0);
        Check.due(b.far(wide, high, full, full), 0);
        Check.due(b.turned(wide, high, full, 3), 0);
        Check.due(b.turned(wide, high, full, 0), full);
        Check.due(b.parts(wide, high, full, 0, 15), 0);
        Check.due(b.joined(wide, high, full), 1);
        Check.due(b.list(wide, high, full), 1);
        Check.due(b.cast(0, 0, full), squares);
        Check.due(b.cast(0, 1, full), squares);
        Check.due(b.fits(0, full), 1);
        Check.due(b.rank(0, full), 0);
        Check.due(b.keep(0, 3, 0, full), 0);
        Check.due(b.layer(0, 0), full);
        for (long p : outside) {
            for (Calls.OfPicture call : Calls.PICTURE) {
                Check.due(call.ask(b, wide, high, p), -1);
            }
            for (Calls.OfJobsPicture call : Calls.JOBS_PICTURE) {
                Check.due(call.ask(b, 0, p), -1);
            }
        }
    }

    @Says(promise = 0, words = "A WAY is a step dx, dy: 1, 0: along rows (LINES are rows, by y); "
            + "0, 1: along columns (by x); 1, 1 (LINES by x - y + H - 1); 1, -1 (by x + y).")
    static void linesOfWays() {
        for (int wide = 1; wide <= 6; wide++) {
            for (int high = 1; high <= 6; high++) {
                for (int square = 0; square < wide * high; square++) {
                    linesThrough(wide, high, square % wide, square / wide);
                }
            }
        }
    }

    private static void linesThrough(int wide, int high, int x, int y) {
        ShadowBench b = Calls.with(0, wide, high);
        int[] through = {y, x, x - y + high - 1, x + y};
        int[] lines = {high, wide, wide + high - 1, wide + high - 1};
        for (int way = 0; way < 4; way++) {
            Check.due(b.told(0, way, -1), lines[way]);
            for (int line = 0; line < lines[way]; line++) {
                long one = b.shadow(wide, high, 1L << (y * wide + x), way, line);
                Check.due(one, line == through[way] ? 1 : 0);
            }
            for (int line : new int[] {-1, lines[way], LOW, TOP}) {
                Check.due(b.shadow(wide, high, 1L << (y * wide + x), way, line), -1);
                Check.due(b.sum(0, way, line, 0), -1);
            }
            Check.due(b.told(0, way, lines[way]), -1);
            Check.due(b.sum(0, way, lines[way] - 1, 1), 0);
            Check.due(b.told(0, way, lines[way] - 1), 1);
        }
    }

    @Says(promise = 0, words = "A SHADOW along a WAY: for each LINE how many ones it has.")
    static void shadowsOfNoneAndOfAll() {
        for (int wide = 1; wide <= 6; wide++) {
            for (int high = 1; high <= 6; high++) {
                ShadowBench b = new ShadowBench();
                long full = Calls.full(wide, high);
                for (int way = 0; way < 4; way++) {
                    int lines = way == 0 ? high : way == 1 ? wide : wide + high - 1;
                    for (int line = 0; line < lines; line++) {
                        // A slant grows from its corner till it is as long as the lesser edge.
                        int slant = Math.min(Math.min(line + 1, lines - line),
                                Math.min(wide, high));
                        Check.due(b.shadow(wide, high, 0, way, line), 0);
                        Check.due(b.shadow(wide, high, full, way, line),
                                way == 0 ? wide : way == 1 ? high : slant);
                    }
                }
            }
        }
    }

    @Says(promise = 0, words = "WAYS are numbered 0 .. 3 in this order.")
    static void ways() {
        long[][] due = {{0, 1, -1, 1, 3, 1}, {0, 1, -1, 1, 3, 1}, {0, 1, 1, -2, 5, 0},
            {0, 1, 1, -2, 5, 1}};
        for (int way = 0; way < 4; way++) {
            ShadowBench b = Calls.toldBy(0, 3, 3, 273);
            for (int i = 0; i < due[way].length; i++) {
                Check.due(Calls.WAY.get(i).ask(b, way), due[way][i]);
            }
        }
        for (Calls.OfNumber call : Calls.WAY) {
            for (int way : new int[] {-1, 4, 5, 32, LOW, TOP}) {
                Refused.in(Look.SOME, -1, b -> call.ask(b, way));
            }
        }
    }

    @Says(promise = 0, words = "JOBS 0 .. 7, as they come, each of a BOARD:")
    static void jobs() {
        ShadowBench all = new ShadowBench();
        for (int job = 0; job < 8; job++) {
            Check.due(all.count(job), -1);
            Check.due(all.job(0, 1 + job % 6, 6 - job % 6), job);
            Check.due(all.count(job), 1);
            Check.due(all.told(job, 1, -1), 1 + job % 6);
            Check.due(all.told(job, 0, -1), 6 - job % 6);
        }
        int[] noJob = {-1, 8, 9, -8, LOW, TOP};
        for (Calls.OfNumber call : Calls.JOB) {
            for (int job : noJob) {
                Refused.in(Look.FULL, -1, b -> call.ask(b, job));
            }
            // The next one to come is none yet.
            Refused.in(Look.SOME, -1, b -> call.ask(b, 5));
            Refused.in(Look.FRESH, -1, b -> call.ask(b, 0));
        }
        for (Calls.OfNumber call : Calls.JOB_OR_THROW) {
            for (int job : noJob) {
                Refused.thrown(Look.FULL, IllegalArgumentException.class, b -> call.ask(b, job));
            }
            Refused.thrown(Look.SOME, IllegalArgumentException.class, b -> call.ask(b, 5));
            Refused.thrown(Look.FRESH, IllegalArgumentException.class, b -> call.ask(b, 0));
        }
    }

    @Says(promise = 0, words = "SUMS are told for LINES of WAYS 0 and 1 (each 0 at first), and "
            + "perhaps for WAYS 2, 3 (not told at first).")
    static void sumsAtFirst() {
        for (int kind = 0; kind < 4; kind++) {
            ShadowBench b = Calls.with(kind, 6, 5);
            int[] lines = {5, 6, 10, 10};
            for (int way = 0; way < 4; way++) {
                for (int line = 0; line < lines[way]; line++) {
                    Check.due(b.told(0, way, line), way < 2 ? 0 : -2);
                }
            }
            Check.due(b.untell(0, 2), 0);
            Check.due(b.untell(0, 3), 0);
            Check.due(b.count(0), 1);
            Check.due(b.find(0, 0), 0);
        }
    }

    @Says(promise = 0, words = "SQUARES may be HELD at 0 or 1.")
    static void heldSquares() {
        ShadowBench b = Calls.toldBy(0, 2, 2, 9);
        Check.due(b.count(0), 2);
        Check.due(b.hold(0, 0, 1), 2);
        Check.due(b.find(0, 0), 9);
        Check.due(b.find(0, 1), -2);
        Check.due(b.hold(0, 0, 0), 1);
        Check.due(b.find(0, 0), 6);
        Check.due(b.find(0, 1), -2);
        Check.due(b.hold(0, 0, 2), 0);
        Check.due(b.count(0), 2);
        for (int how : new int[] {-1, 3, 4, LOW, TOP}) {
            Refused.in(Look.SOME, -1, x -> x.hold(0, 0, how));
        }
    }

    @Says(promise = 0, words = "KINDS: 0 PLAIN.")
    static void kinds() {
        for (int kind = 0; kind < 4; kind++) {
            ShadowBench b = new ShadowBench();
            Check.due(b.job(kind, 2, 2), 0);
            Check.due(b.cast(0, 0, 9) + b.cast(0, 1, 9), 4);
            Check.due(b.count(0), kind == 0 || kind == 3 ? 2 : 0);
        }
        for (int kind : new int[] {-1, 4, 5, LOW, TOP}) {
            Refused.everywhere(-1, b -> b.job(kind, 2, 2));
        }
    }

    @Says(promise = 0, words = "1 JOINED: ones hang together side by side (left and right, above "
            + "and below; none, or one alone, hang together).")
    static void joinedOnes() {
        String[][] hang = {{"...", "...", "..."}, {"##.", "...", "..."}, {"...", ".##", "..."},
            {"...", "..#", "..#"}, {"#..", "#..", "..."}, {"###", "#.#", "###"},
            {"#.#", "#.#", "###"}, {"###", "..#", "..#"}, {"###", "###", "###"}};
        String[][] apart = {{"#.#", "...", "..."}, {"#..", "...", "#.."}, {"#..", ".#.", "..."},
            {".#.", "#..", "..."}, {"..#", "#..", "..."}, {"...", "..#", "#.."},
            {"##.", "..#", "..#"}, {"#.#", "#.#", "#.#"}, {"###", "...", "###"}};
        for (String[] rows : hang) {
            looksJoined(Calls.pic(rows), 1);
        }
        for (String[] rows : apart) {
            looksJoined(Calls.pic(rows), 0);
        }
        for (int square = 0; square < 9; square++) {
            looksJoined(1L << square, 1);
        }
    }

    private static void looksJoined(long picture, int due) {
        Check.due(new ShadowBench().joined(3, 3, picture), due);
        Check.due(Calls.toldBy(1, 3, 3, picture).fits(0, picture), due);
    }

    @Says(promise = 0, words = "2 EVEN under JOINED: and the ones of each row and of each column "
            + "have no gaps.")
    static void evenOnes() {
        // None, one, all; then a gap in a row, in a column, in the first and the last ones.
        looksEven(Calls.pic("...", "...", "..."), 1, 1);
        looksEven(Calls.pic("...", "...", "..#"), 1, 1);
        looksEven(Calls.pic("###", "###", "###"), 1, 1);
        looksEven(Calls.pic(".#.", "###", ".#."), 1, 1);
        looksEven(Calls.pic("#.#", "###", "..."), 1, 0);
        looksEven(Calls.pic("...", "###", "#.#"), 1, 0);
        looksEven(Calls.pic("##.", "#..", "##."), 1, 0);
        looksEven(Calls.pic(".##", "..#", ".##"), 1, 0);
        looksEven(Calls.pic("###", "#.#", "###"), 1, 0);
        // Without gaps, but not joined: it is not even, for even ones are joined.
        looksEven(Calls.pic("#..", ".#.", "..."), 0, 0);
        looksEven(Calls.pic("##.", "..#", "..."), 0, 0);
    }

    private static void looksEven(long picture, int joined, int even) {
        Check.due(Calls.toldBy(0, 3, 3, picture).fits(0, picture), 1);
        Check.due(Calls.toldBy(1, 3, 3, picture).fits(0, picture), joined);
        Check.due(Calls.toldBy(2, 3, 3, picture).fits(0, picture), even);
        Check.due(Calls.toldBy(3, 3, 3, picture).fits(0, picture), 1);
    }

    @Says(promise = 0, words = "3 MARKED under PLAIN: each SQUARE has a weight (-99 .. 99; 0 at "
            + "first).")
    static void weights() {
        ShadowBench b = Calls.toldBy(3, 6, 6, Calls.full(6, 6));
        Check.due(b.best(0), 0);
        for (int square = 0; square < 36; square++) {
            Check.due(b.mark(0, square, 0), 0);
            Check.due(b.mark(0, square, 99), 1);
        }
        Check.due(b.best(0), 36 * 99);
        for (int square = 0; square < 36; square++) {
            Check.due(b.mark(0, square, -99), 1);
        }
        Check.due(b.best(0), -36 * 99);
        for (int v : new int[] {100, -100, 101, LOW, TOP}) {
            Refused.in(Look.SOME, -1, x -> x.mark(3, 0, v));
        }
    }

    @Says(promise = 0, words = "A PICTURE FITS a JOB if its SHADOWS are the SUMS that are told, "
            + "HELD SQUARES are as they are held, and it is as the KIND asks.")
    static void fitting() {
        long p = Calls.pic("##.", "##.", "..#");
        ShadowBench b = Calls.toldBy(0, 3, 3, p);
        b.cast(0, 2, p);
        b.cast(0, 3, p);
        Check.due(b.fits(0, p), 1);
        // Each sum by itself one too many, or one too few.
        int[] lines = {3, 3, 5, 5};
        for (int way = 0; way < 4; way++) {
            for (int line = 0; line < lines[way]; line++) {
                int sum = b.told(0, way, line);
                b.sum(0, way, line, sum + 1);
                Check.due(b.fits(0, p), 0);
                Check.due(b.sum(0, way, line, sum - 1), sum == 0 ? -1 : 0);
                Check.due(b.fits(0, p), 0);
                b.sum(0, way, line, sum);
                Check.due(b.fits(0, p), 1);
            }
        }
        for (int square = 0; square < 9; square++) {
            int one = (int) (p >> square & 1);
            b.hold(0, square, 1 - one);
            Check.due(b.fits(0, p), 0);
            b.hold(0, square, one);
            Check.due(b.fits(0, p), 1);
        }
        Check.due(Calls.toldBy(1, 3, 3, p).fits(0, p), 0);
        Check.due(Calls.toldBy(2, 3, 3, p).fits(0, p), 0);
        Check.due(Calls.toldBy(3, 3, 3, p).fits(0, p), 1);
    }

    @Says(promise = 0, words = {"A SWITCH of a PICTURE: two rows y < v, two columns x < u, with "
            + "ones at (x, y), (u, v) and noughts at (u, y), (x, v), or the other way round: the "
            + "four change.", "(SHADOWS of WAYS 0, 1 stay.)"})
    static void switchesOfFour() {
        ShadowBench b = new ShadowBench();
        for (int p = 0; p < 16; p++) {
            boolean isSwitch = p == 9 || p == 6;
            Check.due(b.switches(2, 2, p), isSwitch ? 1 : 0);
            Check.due(b.switched(2, 2, p, 0), isSwitch ? 15 - p : -2);
        }
        // One row, or one column, has none; the corners of the greatest board are a four.
        for (int p = 0; p < 64; p++) {
            Check.due(b.switches(6, 1, p), 0);
            Check.due(b.switches(1, 6, p), 0);
        }
        long falling = 1L | 1L << 35;
        long rising = 1L << 5 | 1L << 30;
        ShadowBench great = new ShadowBench();
        Check.due(great.switched(6, 6, falling, 0), rising);
        Check.due(great.switched(6, 6, rising, 0), falling);
        Check.due(great.switches(6, 6, falling | 1L << 5), 0);
        Check.due(great.switches(6, 6, falling | 1L << 30), 0);
        for (int way = 0; way < 2; way++) {
            for (int line = 0; line < 6; line++) {
                Check.due(great.shadow(6, 6, falling, way, line),
                        great.shadow(6, 6, rising, way, line));
            }
        }
    }

    @Says(promise = 0, words = "FAR of two PICTURES with the same SHADOWS of WAYS 0, 1: the fewest "
            + "SWITCHES from the one to the other: PICTURES are met one by one, the first one, then "
            + "from each, as they were met, by its SWITCHES in their order, those that were not met "
            + "yet, till the other one is met.")
    static void meetings() {
        // From each, and its 20000th and 20001st as they are met; the first one is one of them.
        long[][] due = {{20018394037L, 11362718638L, 4, 18893591470L},
            {21878446936L, 13700781769L, 6, 13445056201L},
            {23733572325L, 30637635981L, 4, 28490160525L},
            {53593064101L, 27864871156L, 4, 61025587444L},
            {7891864161L, 40090478154L, 5, 39855654474L}};
        for (long[] one : due) {
            ShadowBench b = new ShadowBench();
            Check.due(b.far(6, 6, one[0], one[0]), 0);
            Check.due(b.far(6, 6, one[0], b.switched(6, 6, one[0], 0)), 1);
            Check.due(b.far(6, 6, one[0], one[1]), one[2]);
            Check.due(b.far(6, 6, one[0], one[3]), -5);
            Check.due(b.far(6, 6, one[0], one[1]), one[2]);
        }
        // The last one of a class of 19430, all of which may be met.
        Check.due(new ShadowBench().far(6, 6, 60906957047L, 8416603439L), 7);
        allMet(5, 4, Calls.pic("##...", "..##.", "#...#", ".##.."));
        allMet(3, 6, Calls.pic("#..", ".#.", "..#", "#..", ".#.", "..#"));
    }

    /** Every picture of a class of few, which no call says -5 of. */
    private static void allMet(int wide, int high, long from) {
        List<long[]> met = ModelBench.meetFrom(wide, high, from, 20000);
        for (long[] one : met) {
            Check.due(new ShadowBench().far(wide, high, from, one[0]), one[1]);
        }
        Check.isTrue("some are met: " + met.size(), met.size() > 50 && met.size() < 20000);
    }

    @Says(promise = 0, words = "CLASH of WAYS 0, 1: a number k of columns, those k with the "
            + "greatest sums (of equal ones the first ones): their sum is more than the sum over "
            + "rows of the lesser of k and the row's sum; or all sums of rows and of columns are "
            + "unlike (k 0).")
    static void clashes() {
        // As many as there is room for is no clash, one more is; for each k.
        clashIs(-2, new int[] {1, 1, 0}, new int[] {2, 0, 0});
        clashIs(1, new int[] {2, 0, 0}, new int[] {2, 0, 0});
        clashIs(1, new int[] {1, 2, 0}, new int[] {0, 0, 3});
        clashIs(-2, new int[] {2, 2, 0}, new int[] {2, 2, 0});
        clashIs(2, new int[] {3, 1, 0}, new int[] {2, 0, 2});
        clashIs(-2, new int[] {3, 1, 0}, new int[] {2, 1, 1});
        clashIs(3, new int[] {4, 2, 0}, new int[] {2, 2, 2});
        clashIs(-2, new int[] {3, 3, 0}, new int[] {2, 2, 2});
        clashIs(3, new int[] {6, 6, 6, 3, 3, 2}, new int[] {1, 6, 6, 6, 6, 1});
        clashIs(4, new int[] {6, 6, 6, 3, 3, 3}, new int[] {1, 6, 6, 6, 6, 2});
        clashIs(5, new int[] {6, 6, 6, 4, 4, 0}, new int[] {5, 1, 5, 5, 5, 5});
        clashIs(5, new int[] {6, 4, 0, 0, 0, 0}, new int[] {2, 2, 2, 2, 2});
        clashIs(-2, new int[] {6, 6, 6, 6, 6, 6}, new int[] {6, 6, 6, 6, 6, 6});
        clashIs(1, new int[] {2}, new int[] {2});
        clashIs(-2, new int[] {1}, new int[] {1});
        // All sums: one more of the rows, one more of the columns.
        clashIs(0, new int[] {1, 1, 1}, new int[] {1, 1, 0});
        clashIs(0, new int[] {1, 1, 0}, new int[] {1, 1, 1});
        clashIs(-2, new int[] {0, 0, 0}, new int[] {0, 0, 0});
        clashIs(0, new int[] {0, 0, 0}, new int[] {3, 3, 3});
    }

    private static void clashIs(int due, int[] rows, int[] columns) {
        ShadowBench b = Calls.with(0, columns.length, rows.length);
        for (int y = 0; y < rows.length; y++) {
            b.sum(0, 0, y, rows[y]);
        }
        for (int x = 0; x < columns.length; x++) {
            b.sum(0, 1, x, columns[x]);
        }
        Check.due(b.clash(0), due);
    }

    @Says(promise = 0, words = "A GHOST of a set of WAYS (bits) on a BOARD: numbers (-1, 0, 1 and "
            + "others) at SQUARES whose sums along each LINE of each of the WAYS are 0.")
    static void ghostsHaveNoShadows() {
        int[] dx = {1, 0, 1, 1};
        int[] dy = {0, 1, 1, -1};
        for (int set = 1; set < 16; set++) {
            ShadowBench b = new ShadowBench();
            int[][] at = new int[9][9];
            for (int place = 0; place < 81; place++) {
                at[place / 9][place % 9] = b.ghost(set, place % 9, place / 9);
            }
            for (int way = 0; way < 4; way++) {
                boolean bare = true;
                for (int place = 0; place < 81; place++) {
                    int sum = 0;
                    for (int step = -8; step <= 8; step++) {
                        int x = place % 9 + step * dx[way];
                        int y = place / 9 + step * dy[way];
                        sum += x >= 0 && x < 9 && y >= 0 && y < 9 ? at[y][x] : 0;
                    }
                    bare &= sum == 0;
                }
                Check.due(bare ? 1 : 0, set >> way & 1);
            }
        }
    }

    @Says(promise = 0, words = "THE GHOST of a set: that which comes of 1 at a place by putting on, "
            + "for each of the WAYS (by numbers), what there is moved by the WAY's step, with the "
            + "sign changed; moved as little as can be so that all stand at x, y 0 or more.")
    static void theGhostStandsAtNought() {
        for (int set = 1; set < 16; set++) {
            int firstColumn = 0;
            int firstRow = 0;
            ShadowBench b = new ShadowBench();
            for (int i = 0; i < 9; i++) {
                firstColumn += Math.abs(b.ghost(set, 0, i));
                firstRow += Math.abs(b.ghost(set, i, 0));
            }
            Check.isTrue("column 0 of ghost " + set, firstColumn > 0);
            Check.isTrue("row 0 of ghost " + set, firstRow > 0);
            // The 1 that all begins with: lower by the one step upwards.
            Check.due(b.ghost(set, 0, set >= 8 ? 1 : 0), 1);
        }
    }

    @Says(promise = 0, words = "It needs as wide a BOARD as the steps' sum of |dx| and 1, as high "
            + "as that of |dy| and 1.")
    static void ghostsNeeds() {
        for (int set = 1; set < 16; set++) {
            int wide = 1 + (set & 1) + (set >> 2 & 1) + (set >> 3 & 1);
            int high = 1 + (set >> 1 & 1) + (set >> 2 & 1) + (set >> 3 & 1);
            ShadowBench b = new ShadowBench();
            Check.due(b.haunts(set, wide, high), 1);
            Check.due(b.ghosts(set, wide, high), 1);
            Check.due(b.haunts(set, wide - 1, high), wide == 1 ? -1 : 0);
            Check.due(b.haunts(set, wide, high - 1), high == 1 ? -1 : 0);
            Check.due(b.haunts(set, wide - 1, 6), wide == 1 ? -1 : 0);
            Check.due(b.haunts(set, 6, high - 1), high == 1 ? -1 : 0);
            // Nothing stands beyond that, and something at its last column and last row.
            int lastColumn = 0;
            int lastRow = 0;
            for (int i = 0; i < 9; i++) {
                lastColumn += Math.abs(b.ghost(set, wide - 1, i));
                lastRow += Math.abs(b.ghost(set, i, high - 1));
                Check.due(b.ghost(set, wide, i), 0);
                Check.due(b.ghost(set, i, high), 0);
            }
            Check.isTrue("the last column of ghost " + set, lastColumn > 0);
            Check.isTrue("the last row of ghost " + set, lastRow > 0);
        }
    }

    @Says(promise = 0, words = "SHELVES 0 .. 7 each hold nothing (at first), a JOB (as it is then), "
            + "a ROW of bytes or longs.")
    static void shelves() {
        ShadowBench b = Calls.toldBy(3, 2, 2, 9);
        for (int d = 0; d < 8; d++) {
            int shelf = d;
            Check.due(b.toss(d), -11);
            Check.due(b.layer(d, 0), -11);
            Check.thrown(IllegalStateException.class, () -> b.element(shelf, 0));
            Check.thrown(IllegalStateException.class, () -> b.weight(shelf));
            Check.due(b.keep(d, 1, 0, 0), 0);
            Check.due(b.weight(d), 14);
            Check.due(b.keep(d, 3, 0, 9), 0);
            Check.due(b.layer(d, 0), 9);
            Check.due(b.keep(d, 4, 0, 0), 0);
            Check.due(b.element(d, 3), 1);
            Check.due(b.keep(d, 0, 0, 0), 0);
            Check.due(b.toss(d), -11);
        }
        for (int d : new int[] {-1, 8, 9, -8, LOW, TOP}) {
            for (Calls.OfNumber call : Calls.SHELF) {
                Refused.in(Look.SOME, -1, x -> call.ask(x, d));
            }
            for (Calls.OfNumber call : Calls.SHELF_OR_THROW) {
                Refused.thrown(Look.SOME, IllegalArgumentException.class, x -> call.ask(x, d));
            }
        }
        jobAsItIsThen();
    }

    private static void jobAsItIsThen() {
        ShadowBench b = Calls.with(3, 2, 2);
        b.mark(0, 0, 99);
        b.keep(0, 1, 0, 0);
        b.mark(0, 0, -99);
        b.keep(7, 1, 0, 0);
        b.mark(0, 0, 0);
        Check.due(b.weight(0), 113);
        Check.due(b.weight(7), -85);
    }

    @Says(promise = 0, words = "Their REFUSALS: -11 nothing is held where something is wanted; "
            + "-12 it is of another kind; -13 a place that it doesn't have; -14 a size below 0; "
            + "-15 a FAILURE that is none.")
    static void refusalsOfShelves() {
        Refused.in(Look.SOME, -11, b -> b.toss(7));
        Refused.in(Look.SOME, -11, b -> b.layer(7, 0));
        Refused.in(Look.SOME, -11, b -> b.copy(7, 0, 4, 0, 1));
        Refused.in(Look.SOME, -11, b -> b.copy(4, 0, 7, 0, 1));
        Refused.in(Look.SOME, -12, b -> b.toss(4));
        Refused.in(Look.SOME, -12, b -> b.toss(5));
        Refused.in(Look.SOME, -12, b -> b.layer(0, 0));
        Refused.in(Look.SOME, -12, b -> b.layer(5, 0));
        Refused.in(Look.SOME, -12, b -> b.copy(4, 0, 5, 0, 1));
        Refused.in(Look.SOME, -12, b -> b.copy(5, 0, 6, 0, 1));
        Refused.in(Look.SOME, -12, b -> b.copy(0, 0, 4, 0, 1));
        Refused.in(Look.SOME, -13, b -> b.copy(4, 0, 6, 32, 9));
        Refused.in(Look.SOME, -13, b -> b.copy(4, 1, 6, 0, 9));
        Refused.in(Look.SOME, -13, b -> b.layer(6, 0));
        Refused.in(Look.SOME, -14, b -> b.make(4, 3, -1));
        Refused.in(Look.SOME, -15, b -> b.toss(0));
    }

    @Says(promise = 0, words = "Answers of several refusals are the first one here: -1 no such "
            + "thing, a number out of range, or not as told; -2, -3, -4, -5 (SPENT), -11 to -15 as "
            + "told.")
    static void orderOfRefusals() {
        // There are eight jobs, and: no such kind, no such board.
        Refused.in(Look.FULL, -1, b -> b.job(4, 3, 3));
        Refused.in(Look.FULL, -1, b -> b.job(-1, 3, 3));
        Refused.in(Look.FULL, -1, b -> b.job(0, 7, 3));
        Refused.in(Look.FULL, -1, b -> b.job(0, 3, 0));
        // It is of another kind, and: no such square, no such weight.
        Refused.in(Look.SOME, -1, b -> b.mark(0, 9, 1));
        Refused.in(Look.SOME, -1, b -> b.mark(0, 0, 100));
        Refused.in(Look.SOME, -1, b -> b.mark(1, -1, -100));
        // The way is not told, and: no such line.
        Refused.in(Look.SOME, -1, b -> b.told(0, 3, 5));
        Refused.in(Look.SOME, -1, b -> b.told(0, 3, -2));
        // There are not so many, and: no such picture.
        Refused.in(Look.SOME, -1, b -> b.switched(3, 3, 512, 99));
        // Twelve are there, and: no such picture; of another board; is there.
        Refused.in(Look.FULL, -1, b -> b.list(3, 3, 512));
        Refused.in(Look.FULL, -1, b -> b.list(7, 3, 0));
        Refused.in(Look.FULL, -2, b -> b.list(3, 2, 1));
        Refused.in(Look.FULL, -2, b -> b.list(3, 3, 273));
        // Unlike shadows, and: no such picture.
        Refused.in(Look.SOME, -1, b -> b.far(3, 3, 1, 512));
        orderOfShelves();
    }

    private static void orderOfShelves() {
        // A size below 0, and: no such shelf, nothing that can be made.
        Refused.in(Look.SOME, -1, b -> b.make(8, 3, -1));
        Refused.in(Look.SOME, -1, b -> b.make(4, 2, -1));
        // Copy: -1 before -11 before -12 before -13.
        Refused.in(Look.SOME, -1, b -> b.copy(8, 0, 7, 0, -1));
        Refused.in(Look.SOME, -1, b -> b.copy(7, 0, 8, 0, -1));
        Refused.in(Look.SOME, -1, b -> b.copy(0, -1, -1, -1, -1));
        Refused.in(Look.SOME, -11, b -> b.copy(7, -1, 0, -1, -1));
        Refused.in(Look.SOME, -11, b -> b.copy(0, -1, 7, -1, -1));
        Refused.in(Look.SOME, -12, b -> b.copy(4, -1, 5, -1, -1));
        Refused.in(Look.SOME, -12, b -> b.copy(0, 99, 4, 99, 99));
        // Layer: -1 before -11, -12 and -13.
        Refused.in(Look.SOME, -1, b -> b.layer(7, 9));
        Refused.in(Look.SOME, -1, b -> b.layer(5, -1));
        Refused.in(Look.SOME, -1, b -> b.layer(6, 9));
        Refused.in(b -> {
            Look.SOME.build(b);
            b.make(7, 4, 40);
        }, -12, b -> b.layer(7, 0));
        // No such job, or not marked, before none fits; no such shelf before nothing is held.
        Refused.thrown(Look.FULL, IllegalArgumentException.class, b -> b.best(4));
        Refused.thrown(Look.FULL, IllegalArgumentException.class, b -> b.bestOne(4));
        Refused.thrown(Look.SOME, IllegalArgumentException.class, b -> b.element(8, -1));
    }

    @Says(promise = 0, words = "A refused call changes nothing.")
    static void refusedCallsInARow() {
        // All together, in one object: what it answers then is as if none had been made.
        Look.State refused = b -> {
            Look.SOME.build(b);
            Check.due(b.job(4, 1, 1), -1);
            Check.due(b.sum(0, 3, 0, 7), -1);
            Check.due(b.sum(0, 0, 3, 1), -1);
            Check.due(b.cast(0, 0, 512), -1);
            Check.due(b.cast(0, 4, 0), -1);
            Check.due(b.untell(0, 1), -1);
            Check.due(b.hold(0, 9, 1), -1);
            Check.due(b.hold(0, 0, 3), -1);
            Check.due(b.mark(3, 0, 100), -1);
            Check.due(b.mark(0, 0, 1), -4);
            Check.due(b.find(0, 9), -2);
            Check.due(b.rank(0, 0), -2);
            Check.due(b.list(2, 2, 1), -3);
            Check.due(b.list(3, 3, 273), -3);
            Check.due(b.list(3, 3, 512), -1);
            Check.due(b.keep(0, 2, 0, 0), -1);
            Check.due(b.keep(0, 3, 0, 512), -1);
            Check.due(b.keep(0, 1, 5, 0), -1);
            Check.due(b.make(0, 3, 61), -1);
            Check.due(b.make(0, 3, -1), -14);
            Check.due(b.copy(4, 0, 6, 38, 3), -13);
            Check.due(b.copy(4, 0, 5, 0, 1), -12);
            Check.due(b.copy(7, 0, 4, 0, 1), -11);
        };
        for (int part = 0; part < Look.PARTS; part++) {
            ShadowBench without = new ShadowBench();
            Look.SOME.build(without);
            ShadowBench with = new ShadowBench();
            refused.build(with);
            Check.due("part " + part, Look.part(part, with), Look.part(part, without));
        }
    }
}
