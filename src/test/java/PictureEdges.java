/** The boundary cases of promises 18 to 24: pictures of a board. */
final class PictureEdges {
    private static final int LOW = Calls.LOW;
    private static final int TOP = Calls.TOP;
    private static final int[] NO_EDGE = {0, 7, -1, LOW, TOP};
    private static final long[] NO_PICTURE = {512, -1, Long.MIN_VALUE, Long.MAX_VALUE, 1L << 32};

    private PictureEdges() {
    }

    /** The call is refused on boards that are none, and for pictures that a board doesn't have. */
    private static void refusedAsPicture(Calls.OfPicture call) {
        for (int edge : NO_EDGE) {
            Refused.in(Look.SOME, -1, b -> call.ask(b, edge, 3, 0));
            Refused.in(Look.SOME, -1, b -> call.ask(b, 3, edge, 0));
        }
        for (long p : NO_PICTURE) {
            Refused.in(Look.SOME, -1, b -> call.ask(b, 3, 3, p));
        }
        Refused.in(Look.SOME, -1, b -> call.ask(b, 6, 6, 1L << 36));
        Refused.in(Look.SOME, -1, b -> call.ask(b, 1, 1, 2));
    }

    @Says(promise = 18, words = {"How many SWITCHES a PICTURE has.", "-1."})
    static void switches() {
        ShadowBench b = new ShadowBench();
        Check.due(b.switches(6, 6, 0), 0);
        Check.due(b.switches(6, 6, Calls.full(6, 6)), 0);
        Check.due(b.switches(1, 1, 1), 0);
        // As many as two rows of six can have, and as a board like a chess board has.
        Check.due(b.switches(6, 2, Calls.pic("###...", "...###")), 9);
        long chess = Calls.pic("#.#.#.", ".#.#.#", "#.#.#.", ".#.#.#", "#.#.#.", ".#.#.#");
        Check.due(b.switches(6, 6, chess), 81);
        Check.due(b.switches(6, 6, b.turned(6, 6, chess, 3)), 81);
        refusedAsPicture((x, wide, high, p) -> x.switches(wide, high, p));
    }

    @Says(promise = 19, words = {"The PICTURE behind SWITCH i, from 0 (by y, then v, x, u).", "-1;"})
    static void switched() {
        // Fours of corners that differ in one of y, v, x, u alone, the first and the last of each.
        ShadowBench b = new ShadowBench();
        long y = Calls.pic("#.", "#.", ".#");
        Check.due(b.switched(2, 3, y, 0), Calls.pic(".#", "#.", "#."));
        Check.due(b.switched(2, 3, y, 1), Calls.pic("#.", ".#", "#."));
        Check.due(b.switched(2, 3, y, 2), -2);
        long v = Calls.pic("#.", ".#", ".#");
        Check.due(b.switched(2, 3, v, 0), Calls.pic(".#", "#.", ".#"));
        Check.due(b.switched(2, 3, v, 1), Calls.pic(".#", ".#", "#."));
        Check.due(b.switched(2, 3, v, 2), -2);
        long x = Calls.pic("##.", "..#");
        Check.due(b.switched(3, 2, x, 0), Calls.pic(".##", "#.."));
        Check.due(b.switched(3, 2, x, 1), Calls.pic("#.#", ".#."));
        Check.due(b.switched(3, 2, x, 2), -2);
        long u = Calls.pic("#..", ".##");
        Check.due(b.switched(3, 2, u, 0), Calls.pic(".#.", "#.#"));
        Check.due(b.switched(3, 2, u, 1), Calls.pic("..#", "##."));
        Check.due(b.switched(3, 2, u, 2), -2);
        // v counts before x, y before v: a switch of rows 0 1 comes before one of rows 0 2.
        long rows = Calls.pic("#.#", ".#.", "...");
        Check.due(b.switched(3, 3, rows, 0), Calls.pic(".##", "#..", "..."));
        long both = Calls.pic("#.#", "..#", ".#.");
        Check.due(b.switched(3, 3, both, 0), Calls.pic(".##", "..#", "#.."));
        Check.due(b.switched(3, 3, both, 1), Calls.pic("##.", "..#", "..#"));
        Check.due(b.switched(3, 3, both, 2), Calls.pic("#.#", ".#.", "..#"));
        Check.due(b.switched(3, 3, both, 3), -2);
        for (int i : new int[] {-1, -2, LOW}) {
            Refused.in(Look.SOME, -1, z -> z.switched(3, 3, 273, i));
            Refused.in(Look.SOME, -1, z -> z.switched(3, 3, 0, i));
        }
        refusedAsPicture((z, wide, high, p) -> z.switched(wide, high, p, 0));
    }

    @Says(promise = 19, words = "-2: there are not so many.")
    static void switchedBeyondTheLast() {
        ShadowBench b = new ShadowBench();
        long chess = Calls.pic("#.#.#.", ".#.#.#", "#.#.#.", ".#.#.#", "#.#.#.", ".#.#.#");
        long last = 1L << 28 | 1L << 29 | 1L << 34 | 1L << 35;
        Check.due(b.switched(6, 6, chess, 80), chess ^ last);
        Check.due(b.switched(6, 6, chess, 81), -2);
        Check.due(b.switched(2, 2, 9, 0), 6);
        Check.due(b.switched(2, 2, 9, 1), -2);
        Check.due(b.switched(1, 1, 1, 0), -2);
        for (int i : new int[] {3, 4, TOP}) {
            Refused.in(Look.SOME, -2, x -> x.switched(3, 3, 273, i));
        }
        Refused.in(Look.SOME, -2, x -> x.switched(3, 3, 0, 0));
        Refused.in(Look.SOME, -2, x -> x.switched(3, 3, 511, 0));
    }

    @Says(promise = 20, words = {"FAR of two PICTURES;", "-1."})
    static void far() {
        ShadowBench b = new ShadowBench();
        Check.due(b.far(1, 1, 0, 0), 0);
        Check.due(b.far(1, 1, 1, 1), 0);
        Check.due(b.far(6, 6, Calls.full(6, 6), Calls.full(6, 6)), 0);
        Check.due(b.far(2, 2, 9, 6), 1);
        Check.due(b.far(2, 2, 6, 9), 1);
        // A ring of n takes n - 1 switches.
        for (int n = 2; n <= 6; n++) {
            long straight = 0;
            long ring = 0;
            for (int y = 0; y < n; y++) {
                straight |= 1L << (n * y + y);
                ring |= 1L << (n * y + (y + 1) % n);
            }
            Check.due(b.far(n, n, straight, ring), n - 1);
            Check.due(b.far(n, n, ring, straight), n - 1);
        }
        refusedAsPicture((x, wide, high, p) -> x.far(wide, high, p, 0));
        refusedAsPicture((x, wide, high, p) -> x.far(wide, high, 0, p));
        refusedAsPicture((x, wide, high, p) -> x.far(wide, high, p, p));
    }

    @Says(promise = 20, words = "-2: their SHADOWS of WAYS 0, 1 are unlike;")
    static void farOfUnlikeOnes() {
        // Rows unlike alone, columns unlike alone, the last line alone, one more one.
        Refused.in(Look.SOME, -2, b -> b.far(2, 2, 1, 4));
        Refused.in(Look.SOME, -2, b -> b.far(2, 2, 1, 2));
        Refused.in(Look.SOME, -2, b -> b.far(6, 6, 0, 1L << 35));
        Refused.in(Look.SOME, -2, b -> b.far(6, 6, 1L << 35, 0));
        Refused.in(Look.SOME, -2, b -> b.far(3, 3, 273, 275));
        Refused.in(Look.SOME, -2, b -> b.far(1, 1, 0, 1));
        // Unlike shadows of ways 2, 3 don't matter.
        ShadowBench b = new ShadowBench();
        Check.due(b.parts(2, 2, 9, 6, 12), 2);
        Check.due(b.far(2, 2, 9, 6), 1);
        // Unlike ones are told before any is met.
        long halves = Calls.pic("###...", "###...", "###...", "...###", "...###", "...###");
        Check.due(b.far(6, 6, halves, b.turned(6, 6, halves, 3)), -5);
        Check.due(b.far(6, 6, halves, b.turned(6, 6, halves, 3) & ~(1L << 3)), -2);
    }

    @Says(promise = 20, words = "-5: 20000 were met, and one more would be.")
    static void farBeyond() {
        long[][] due = {{39391393571L, 7462638314L, 4, 13905064682L},
            {6232323752L, 11701008134L, 5, 20290909958L},
            {29122138694L, 62632796483L, 5, 61559316803L}};
        for (long[] one : due) {
            ShadowBench b = new ShadowBench();
            Check.due(b.far(6, 6, one[0], one[3]), -5);
            Check.due(b.far(6, 6, one[0], one[1]), one[2]);
        }
        Refused.in(Look.SOME, -5, b -> b.far(6, 6, due[0][0], due[0][3]));
        // Another class, another board and the way back after that.
        ShadowBench b = new ShadowBench();
        Check.due(b.far(6, 6, due[0][0], due[0][3]), -5);
        Check.due(b.far(3, 3, 273, 140), 2);
        Check.due(b.far(6, 6, due[0][0], due[0][0]), 0);
        Check.due(b.far(6, 6, due[1][0], due[1][1]), due[1][2]);
    }

    @Says(promise = 21, words = {"Whether ones hang together.", "-1."})
    static void joined() {
        ShadowBench b = new ShadowBench();
        Check.due(b.joined(6, 6, 0), 1);
        Check.due(b.joined(6, 6, Calls.full(6, 6)), 1);
        Check.due(b.joined(6, 6, 1L << 35), 1);
        // The end of each row and the beginning of the next are no neighbours.
        for (int wide = 2; wide <= 6; wide++) {
            for (int y = 0; y < 5; y++) {
                Check.due(b.joined(wide, 6, 3L << (wide * y + wide - 1)), 0);
                Check.due(b.joined(wide, 6, 3L << (wide * y + wide - 2)), 1);
                Check.due(b.joined(wide, 6, (1L | 1L << wide) << (wide * y)), 1);
            }
        }
        // One wide they are, for they stand above each other.
        for (int y = 0; y < 5; y++) {
            Check.due(b.joined(1, 6, 3L << y), 1);
            Check.due(b.joined(1, 6, 5L << y & 63), y < 4 ? 0 : 1);
        }
        // The longest ways about: a winding one, and a snail's shell.
        long winding = Calls.pic("######", ".....#", "######", "#.....", "######", ".....#");
        long shell = Calls.pic("######", ".....#", "####.#", "#..#.#", "#....#", "######");
        Check.due(b.joined(6, 6, winding), 1);
        Check.due(b.joined(6, 6, shell), 1);
        Check.due(b.joined(6, 6, winding & ~(1L << 18)), 0);
        Check.due(b.joined(6, 6, shell & ~(1L << 35)), 0);
        refusedAsPicture((x, wide, high, p) -> x.joined(wide, high, p));
    }

    @Says(promise = 22, words = {"Whether ones of each row (column true: column) have no gaps.",
        "-1."})
    static void even() {
        ShadowBench b = new ShadowBench();
        for (int row = 0; row < 64; row++) {
            boolean gap = Integer.toBinaryString(row).matches(".*10+1.*");
            Check.due(b.even(6, 1, row, false), gap ? 0 : 1);
            Check.due(b.even(6, 1, row, true), 1);
            Check.due(b.even(1, 6, row, true), gap ? 0 : 1);
            Check.due(b.even(1, 6, row, false), 1);
        }
        ShadowBench other = new ShadowBench();
        for (int line = 0; line < 6; line++) {
            // A gap in one row alone, in one column alone, from edge to edge and in the middle.
            long row = 1L << (6 * line) | 1L << (6 * line + 5);
            long column = 1L << line | 1L << (30 + line);
            Check.due(other.even(6, 6, row, false), 0);
            Check.due(other.even(6, 6, row, true), 1);
            Check.due(other.even(6, 6, column, false), 1);
            Check.due(other.even(6, 6, column, true), 0);
            Check.due(other.even(6, 6, 5L << (6 * line + 2), false), 0);
            Check.due(other.even(6, 6, (1L | 1L << 12) << (12 + line), true), 0);
        }
        Check.due(other.even(6, 6, 0, false), 1);
        Check.due(other.even(6, 6, 0, true), 1);
        Check.due(other.even(6, 6, Calls.full(6, 6), false), 1);
        Check.due(other.even(6, 6, Calls.full(6, 6), true), 1);
        refusedAsPicture((x, wide, high, p) -> x.even(wide, high, p, false));
        refusedAsPicture((x, wide, high, p) -> x.even(wide, high, p, true));
    }

    @Says(promise = 23, words = "A PICTURE turned: how = 0 a quarter (SQUARE x, y comes to H - 1 - "
            + "y, x; the BOARD is H wide then), 1 the other way up (y to H - 1 - y), 2 rows and "
            + "columns exchanged, 3 ones and noughts exchanged.")
    static void turned() {
        for (int wide = 1; wide <= 6; wide++) {
            for (int high = 1; high <= 6; high++) {
                for (int square = 0; square < wide * high; square++) {
                    turnedOne(wide, high, square % wide, square / wide);
                }
                ShadowBench b = new ShadowBench();
                long full = Calls.full(wide, high);
                for (int how = 0; how < 4; how++) {
                    Check.due(b.turned(wide, high, 0, how), how == 3 ? full : 0);
                    Check.due(b.turned(wide, high, full, how), how == 3 ? 0 : full);
                }
            }
        }
    }

    private static void turnedOne(int wide, int high, int x, int y) {
        ShadowBench b = new ShadowBench();
        long one = 1L << (y * wide + x);
        Check.due(b.turned(wide, high, one, 0), 1L << (x * high + high - 1 - y));
        Check.due(b.turned(wide, high, one, 1), 1L << ((high - 1 - y) * wide + x));
        Check.due(b.turned(wide, high, one, 2), 1L << (x * high + y));
        Check.due(b.turned(wide, high, one, 3), Calls.full(wide, high) - one);
    }

    @Says(promise = 23, words = "-1.")
    static void turnedOtherwise() {
        for (int how : new int[] {-1, 4, 5, LOW, TOP}) {
            Refused.in(Look.SOME, -1, b -> b.turned(3, 2, 11, how));
        }
        for (int how = 0; how < 4; how++) {
            int one = how;
            refusedAsPicture((b, wide, high, p) -> b.turned(wide, high, p, one));
        }
        // On a board that is not as high as wide a picture is looked at before it is turned.
        Refused.in(Look.SOME, -1, b -> b.turned(2, 3, 64, 0));
        Refused.in(Look.SOME, -1, b -> b.turned(6, 1, 64, 2));
    }

    @Says(promise = 24, words = {"The least WAY of a set (bits, 0 .. 15) whose SHADOWS of two "
            + "PICTURES are unlike;", "-1."})
    static void parts() {
        // Two squares of a board of six by six; each set by the ways that tell them apart.
        for (int a = 0; a < 36; a += 5) {
            for (int c = 0; c < 36; c++) {
                int unlike = (a / 6 == c / 6 ? 0 : 1) | (a % 6 == c % 6 ? 0 : 2)
                        | (a % 6 - a / 6 == c % 6 - c / 6 ? 0 : 4)
                        | (a % 6 + a / 6 == c % 6 + c / 6 ? 0 : 8);
                ShadowBench b = new ShadowBench();
                for (int set = 0; set < 16; set++) {
                    int both = set & unlike;
                    int least = both == 0 ? -2 : Integer.numberOfTrailingZeros(both);
                    Check.due(b.parts(6, 6, 1L << a, 1L << c, set), least);
                }
            }
        }
        for (int set : new int[] {-1, 16, 17, 32, LOW, TOP}) {
            Refused.in(Look.SOME, -1, b -> b.parts(3, 3, 273, 84, set));
            Refused.in(Look.SOME, -1, b -> b.parts(3, 3, 273, 273, set));
        }
        refusedAsPicture((b, wide, high, p) -> b.parts(wide, high, p, 0, 15));
        refusedAsPicture((b, wide, high, p) -> b.parts(wide, high, 0, p, 15));
        refusedAsPicture((b, wide, high, p) -> b.parts(wide, high, p, p, 0));
    }

    @Says(promise = 24, words = "-2: there is none.")
    static void partsOfNone() {
        // No way at all; the same picture; ways that tell them apart are not in the set.
        for (int set = 0; set < 16; set++) {
            int one = set;
            Refused.in(Look.SOME, -2, b -> b.parts(3, 3, 273, 273, one));
            Check.due(new ShadowBench().parts(2, 2, 9, 6, set), set < 4 ? -2 : set % 8 < 4 ? 3 : 2);
        }
        Refused.in(Look.SOME, -2, b -> b.parts(3, 3, 0, 511, 0));
        // The ones and the minus ones of the ghost of all ways.
        long plus = Calls.pic("..#.", "#...", "...#", ".#..");
        long minus = Calls.pic(".#..", "...#", "#...", "..#.");
        Refused.in(Look.SOME, -2, b -> b.parts(4, 4, plus, minus, 15));
    }
}
