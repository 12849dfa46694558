/** The boundary cases of promises 25 to 30: the list, and ghosts. */
final class ListEdges {
    private static final int LOW = Calls.LOW;
    private static final int TOP = Calls.TOP;

    private ListEdges() {
    }

    private static ShadowBench listOf(int wide, int high, long... pictures) {
        ShadowBench b = new ShadowBench();
        for (int i = 0; i < pictures.length; i++) {
            Check.due(b.list(wide, high, pictures[i]), i + 1);
        }
        return b;
    }

    @Says(promise = 25, words = {"A PICTURE comes to THE LIST (of one BOARD; the first one's): how "
            + "many there are.", "-1;"})
    static void list() {
        listOf(1, 1, 0, 1);
        listOf(6, 6, 0, Calls.full(6, 6), 1, 1L << 35);
        for (int edge : new int[] {0, 7, -1, LOW, TOP}) {
            Refused.everywhere(-1, b -> b.list(edge, 3, 0));
            Refused.everywhere(-1, b -> b.list(3, edge, 0));
        }
        for (long p : new long[] {512, -1, Long.MIN_VALUE, Long.MAX_VALUE}) {
            Refused.everywhere(-1, b -> b.list(3, 3, p));
        }
        // A refused one is not the first one: the board is still free.
        ShadowBench b = new ShadowBench();
        Check.due(b.list(2, 2, 16), -1);
        Check.due(b.list(3, 3, 1), 1);
        Check.due(b.list(2, 2, 16), -1);
        Check.due(b.list(2, 2, 1), -3);
    }

    @Says(promise = 25, words = "-2: there are 12;")
    static void listOfTwelve() {
        ShadowBench b = new ShadowBench();
        for (int i = 0; i < 12; i++) {
            Check.due(b.list(2, 2, i), i + 1);
        }
        Check.due(b.list(2, 2, 12), -2);
        Check.due(b.list(2, 2, 12), -2);
        Check.due(b.clear(), 12);
        Check.due(b.list(2, 2, 12), 1);
        Refused.in(Look.FULL, -2, x -> x.list(3, 3, 256));
        Refused.in(Look.FULL, -2, x -> x.list(3, 3, 64));
        // Of another board, or there already: twelve counts before that.
        Refused.in(Look.FULL, -2, x -> x.list(2, 2, 1));
        Refused.in(Look.FULL, -2, x -> x.list(3, 3, 273));
    }

    @Says(promise = 25, words = "-3: it is of another BOARD, or is there.")
    static void listOfAnother() {
        // The same squares on a board of another shape, and boards that differ by one edge alone.
        ShadowBench b = listOf(3, 2, 1);
        Check.due(b.list(2, 3, 2), -3);
        Check.due(b.list(6, 1, 2), -3);
        Check.due(b.list(3, 3, 2), -3);
        Check.due(b.list(2, 2, 2), -3);
        Check.due(b.list(3, 2, 2), 2);
        // The first one, the one in the middle and the last one are there.
        for (long p : new long[] {273, 84, 140}) {
            Refused.in(Look.SOME, -3, x -> x.list(3, 3, p));
        }
        Refused.in(Look.SOME, -3, x -> x.list(3, 2, 1));
        Refused.in(Look.SOME, -3, x -> x.list(2, 3, 1));
        // Eleven are there: still by -3.
        ShadowBench eleven = listOf(2, 2, 0, 1, 2, 3, 4, 5, 6, 7, 8, 9, 10);
        Check.due(eleven.list(2, 2, 10), -3);
        Check.due(eleven.list(1, 4, 11), -3);
        Check.due(eleven.list(2, 2, 11), 12);
        Check.due(eleven.list(2, 2, 11), -2);
        // After it was cleared, nothing is there, and any board may be the first one's.
        Check.due(eleven.clear(), 12);
        Check.due(eleven.list(1, 4, 10), 1);
        Check.due(eleven.list(2, 2, 10), -3);
    }

    @Says(promise = 26, words = "THE LIST is empty: how many it had.")
    static void clear() {
        for (int n = 0; n <= 12; n++) {
            ShadowBench b = new ShadowBench();
            for (int i = 0; i < n; i++) {
                b.list(2, 2, i);
            }
            Check.due(b.clear(), n);
            Check.due(b.clear(), 0);
            Check.due(b.ways(), 0);
            Check.due(b.list(3, 3, 511), 1);
            Check.due(b.list(3, 3, 0), 2);
            Check.due(b.ways(), 1);
            Check.due(b.clear(), 2);
        }
    }

    @Says(promise = 27, words = "The fewest WAYS by whose SHADOWS any two PICTURES of THE LIST are "
            + "told apart, of these the least set, as bits;")
    static void ways() {
        Check.due(listOf(2, 2, 1, 4).ways(), 1);
        Check.due(listOf(2, 2, 1, 2).ways(), 2);
        Check.due(listOf(2, 2, 9, 6).ways(), 4);
        // By way 3 alone: their rows, columns and falling slants are the ghost's of ways 0, 1, 2.
        Check.due(listOf(3, 3, Calls.pic("#..", "..#", ".#."), Calls.pic(".#.", "#..", "..#"))
                .ways(), 8);
        // One way is fewer than two, though the set of two is the lesser number.
        Check.due(listOf(3, 3, 273, 84, 140, 98).ways(), 4);
        // Two ways: the least set of two that does, where others do as well.
        Check.due(listOf(2, 2, 1, 2, 4, 8).ways(), 3);
        // Any two: the first with the last one, two in the middle.
        Check.due(listOf(2, 2, 1, 4, 2).ways(), 4);
        Check.due(listOf(2, 2, 4, 1, 2).ways(), 4);
        Check.due(listOf(2, 2, 1, 2, 4).ways(), 4);
        // Twelve of them.
        ShadowBench twelve = new ShadowBench();
        for (int x = 0; x < 6; x++) {
            Check.due(twelve.list(6, 2, 1L << x), 2 * x + 1);
            Check.due(twelve.list(6, 2, 64L << x), 2 * x + 2);
        }
        Check.due(twelve.ways(), 3);
        allOfThemNeeded();
    }

    /** Pairs that one way alone tells apart, so that the ways of a set are all needed. */
    private static void allOfThemNeeded() {
        long[][] pairs = new long[4][2];
        for (int way = 0; way < 4; way++) {
            ShadowBench b = new ShadowBench();
            for (int square = 0; square < 36; square++) {
                int v = b.ghost(15 - (1 << way), square % 6, square / 6);
                pairs[way][0] |= v == 1 ? 1L << square : 0L;
                pairs[way][1] |= v == -1 ? 1L << square : 0L;
            }
        }
        for (int set = 0; set < 16; set++) {
            ShadowBench b = new ShadowBench();
            for (int way = 0; way < 4; way++) {
                if ((set >> way & 1) == 1) {
                    b.list(6, 6, pairs[way][0]);
                    b.list(6, 6, pairs[way][1]);
                }
            }
            Check.due(b.ways(), set);
        }
    }

    @Says(promise = 27, words = "-2: not even by all.")
    static void waysOfGhosts() {
        long plus = Calls.pic("..#.", "#...", "...#", ".#..");
        long minus = Calls.pic(".#..", "...#", "#...", "..#.");
        Check.due(listOf(4, 4, plus).ways(), 0);
        ShadowBench b = listOf(4, 4, plus, minus);
        Check.due(b.ways(), -2);
        Check.due(b.list(4, 4, 0), 3);
        Check.due(b.ways(), -2);
        Check.due(b.clear(), 3);
        Check.due(b.ways(), 0);
        // As the last two of twelve.
        ShadowBench twelve = listOf(4, 4, 1, 2, 4, 8, 16, 32, 64, 128, 256, 512);
        int ways = twelve.ways();
        Check.isTrue("ten are told apart", ways > 0);
        twelve.list(4, 4, plus);
        Check.isTrue("eleven are told apart", twelve.ways() > 0);
        twelve.list(4, 4, minus);
        Check.due(twelve.ways(), -2);
        Refused.in(x -> {
            x.list(4, 4, plus);
            x.list(4, 4, minus);
        }, -2, x -> x.ways());
    }

    @Says(promise = 27, words = "(0 of fewer than two.)")
    static void waysOfFewerThanTwo() {
        ShadowBench b = new ShadowBench();
        Check.due(b.ways(), 0);
        Check.due(b.list(6, 6, 0), 1);
        Check.due(b.ways(), 0);
        Check.due(b.list(6, 6, 1), 2);
        Check.due(b.ways(), 1);
        b.clear();
        Check.due(b.ways(), 0);
        Check.due(b.list(1, 1, 1), 1);
        Check.due(b.ways(), 0);
    }

    @Says(promise = 28, words = "THE GHOST of a set of WAYS: its number at x, y (0 .. 8 each).")
    static void ghost() {
        for (int set = 1; set < 16; set++) {
            ShadowBench b = new ShadowBench();
            for (int place = 0; place < 81; place++) {
                Check.due(b.ghost(set, place % 9, place / 9),
                        ModelBench.ghostOf(set).getOrDefault(100 * (place / 9) + place % 9, 0));
            }
        }
        // The ghost of all: its corners are bare, and it ends at 3, 3.
        int[][] all = {{0, -1, 1, 0, 0}, {1, 0, 0, -1, 0}, {-1, 0, 0, 1, 0}, {0, 1, -1, 0, 0},
            {0, 0, 0, 0, 0}};
        ShadowBench b = new ShadowBench();
        for (int y = 0; y < 5; y++) {
            for (int x = 0; x < 5; x++) {
                Check.due(b.ghost(15, x, y), all[y][x]);
            }
        }
        Check.due(b.ghost(15, 8, 8), 0);
        Check.due(b.ghost(1, 8, 0), 0);
        Check.due(b.ghost(1, 0, 8), 0);
    }

    @Says(promise = 28, words = "IllegalArgumentException: no set (0 too), x, y.")
    static void ghostOfNone() {
        for (int set : new int[] {0, 16, -1, 17, LOW, TOP}) {
            Refused.thrownEverywhere(IllegalArgumentException.class, b -> b.ghost(set, 0, 0));
        }
        for (int place : new int[] {-1, 9, 10, LOW, TOP}) {
            Refused.thrown(Look.SOME, IllegalArgumentException.class, b -> b.ghost(1, place, 0));
            Refused.thrown(Look.SOME, IllegalArgumentException.class, b -> b.ghost(1, 0, place));
            Refused.thrown(Look.SOME, IllegalArgumentException.class, b -> b.ghost(15, place, 8));
            Refused.thrown(Look.SOME, IllegalArgumentException.class, b -> b.ghost(15, 8, place));
        }
    }

    private static int needs(int set, boolean wide) {
        return 1 + (wide ? set & 1 : set >> 1 & 1) + (set >> 2 & 1) + (set >> 3 & 1);
    }

    @Says(promise = 29, words = {"Whether THE GHOST of a set has a place on a BOARD.", "-1."})
    static void haunts() {
        for (int set = 1; set < 16; set++) {
            for (int board = 0; board < 36; board++) {
                int wide = 1 + board % 6;
                int high = 1 + board / 6;
                boolean has = wide >= needs(set, true) && high >= needs(set, false);
                Check.due(new ShadowBench().haunts(set, wide, high), has ? 1 : 0);
            }
        }
        refusedAsGhosts((b, set, wide, high) -> b.haunts(set, wide, high));
    }

    @Says(promise = 30, words = {"In how many places it has.", "-1."})
    static void ghosts() {
        for (int set = 1; set < 16; set++) {
            for (int board = 0; board < 36; board++) {
                int wide = 1 + board % 6;
                int high = 1 + board / 6;
                int places = Math.max(0, wide - needs(set, true) + 1)
                        * Math.max(0, high - needs(set, false) + 1);
                Check.due(new ShadowBench().ghosts(set, wide, high), places);
            }
        }
        refusedAsGhosts((b, set, wide, high) -> b.ghosts(set, wide, high));
    }

    private interface OfGhosts {
        long ask(ShadowBench b, int set, int wide, int high);
    }

    private static void refusedAsGhosts(OfGhosts call) {
        for (int set : new int[] {0, 16, -1, 17, LOW, TOP}) {
            Refused.in(Look.SOME, -1, b -> call.ask(b, set, 6, 6));
        }
        for (int edge : new int[] {0, 7, -1, LOW, TOP}) {
            Refused.in(Look.SOME, -1, b -> call.ask(b, 1, edge, 6));
            Refused.in(Look.SOME, -1, b -> call.ask(b, 1, 6, edge));
            Refused.in(Look.SOME, -1, b -> call.ask(b, 15, edge, edge));
        }
    }
}
