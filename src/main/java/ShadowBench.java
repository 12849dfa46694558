import java.util.Arrays;

/**
 * A bench that knows pictures by their shadows. What each call promises is told in the document
 * (DOC.md); the promise's number stands above each call.
 */
public final class ShadowBench {
    private static final int NO_SUCH = -1;
    private static final int NONE = -2;
    private static final int NOT_FOR_LIST = -3;
    private static final int OTHER_KIND = -4;
    private static final int SPENT = -5;
    private static final int NOTHING_HELD = -11;
    private static final int OTHER_THING = -12;
    private static final int NO_PLACE = -13;
    private static final int SIZE_BELOW_NOUGHT = -14;
    private static final int NO_FAILURE = -15;

    private static final int PLAIN = 0;
    private static final int JOINED = 1;
    private static final int EVEN = 2;
    private static final int MARKED = 3;

    private static final int KEEP_NOTHING = 0;
    private static final int KEEP_JOB = 1;
    private static final int KEEP_BYTES = 3;
    private static final int KEEP_LONGS = 4;

    private static final int MOST_JOBS = 8;
    private static final int MOST_SHELVES = 8;
    private static final int MOST_LISTED = 12;
    private static final int MOST_SUM = 6;
    private static final int MOST_MARK = 99;
    private static final int MOST_ELEMENTS = 60;
    private static final int MOST_GREYS = 36;
    private static final int MOST_GREY = 9;
    private static final int GHOST_EDGE = 9;
    private static final int WAY_SETS = 16;
    private static final int ROWS_AND_COLUMNS = 3;
    /** Far above what any walk can find: a bound that loops over a walk show. */
    private static final int WALK_BOUND = 1000000;

    private final Board[] boards = new Board[Board.MOST_EDGE * Board.MOST_EDGE];
    private final Job[] jobs = new Job[MOST_JOBS];
    private int jobCount = 0;
    private final Held[] shelves = new Held[MOST_SHELVES];
    private final Walk walk = new Walk();
    private Meetings meetings = null;
    private final long[] listed = new long[MOST_LISTED];
    private int listCount = 0;
    private Board listBoard = null;

    // Promise 1
    public ShadowBench() {
    }

    // ---- jobs

    // Promise 2
    public int job(int kind, int wide, int high) {
        Board board = boardOf(wide, high);
        if (board == null || kind < PLAIN || kind > MARKED) {
            return NO_SUCH;
        }
        if (jobCount >= MOST_JOBS) {
            return NONE;
        }
        jobs[jobCount] = newJob(kind, board);
        jobCount++;
        return jobCount - 1;
    }

    // Promise 3
    public int sum(int job, int way, int line, int v) {
        Job asked = jobOf(job);
        if (asked == null || !asked.board.isLine(way, line) || v < 0 || v > MOST_SUM) {
            return NO_SUCH;
        }
        asked.tellLine(way, line, v);
        return 0;
    }

    // Promise 4
    public int cast(int job, int way, long picture) {
        Job asked = jobOf(job);
        if (asked == null || !isWay(way) || !asked.board.isPicture(picture)) {
            return NO_SUCH;
        }
        asked.tellShadow(way, picture);
        return Long.bitCount(picture);
    }

    // Promise 5
    public int untell(int job, int way) {
        Job asked = jobOf(job);
        if (asked == null || !isWay(way) || way < Board.FIRST_SLANT) {
            return NO_SUCH;
        }
        int was = asked.isTold(way) ? 1 : 0;
        asked.forgetWay(way);
        return was;
    }

    // Promise 6
    public int hold(int job, int square, int how) {
        Job asked = jobOf(job);
        if (asked == null || !asked.board.isSquare(square) || how < 0 || how > Job.FREE) {
            return NO_SUCH;
        }
        int was = asked.howHeld(square);
        asked.holdSquare(square, how);
        return was;
    }

    // Promise 7
    public int mark(int job, int square, int v) {
        Job asked = jobOf(job);
        if (asked == null || !asked.board.isSquare(square) || v < -MOST_MARK || v > MOST_MARK) {
            return NO_SUCH;
        }
        if (asked instanceof MarkedJob marked) {
            return marked.setMark(square, v) ? 1 : 0;
        }
        return OTHER_KIND;
    }

    // Promise 8
    public int told(int job, int way, int line) {
        Job asked = jobOf(job);
        if (asked == null || !isWay(way)) {
            return NO_SUCH;
        }
        if (line == -1) {
            return asked.board.lineCount(way);
        }
        if (!asked.board.isLine(way, line)) {
            return NO_SUCH;
        }
        return asked.isTold(way) ? asked.sumOf(way, line) : NONE;
    }

    // Promise 9
    public int shadow(int wide, int high, long picture, int way, int line) {
        Board board = boardOf(wide, high);
        if (board == null || !board.isPicture(picture) || !board.isLine(way, line)) {
            return NO_SUCH;
        }
        return board.onesOfLine(way, line, picture);
    }

    // Promise 10
    public int fits(int job, long picture) {
        Job asked = jobOf(job);
        if (asked == null || !asked.board.isPicture(picture)) {
            return NO_SUCH;
        }
        return asked.admits(picture) ? 1 : 0;
    }

    // Promise 11
    public int count(int job) {
        Job asked = jobOf(job);
        if (asked == null) {
            return NO_SUCH;
        }
        walk.start(asked);
        int found = 0;
        while (found < WALK_BOUND && walk.advance()) {
            found++;
        }
        return walk.isSpent() ? SPENT : found;
    }

    // Promise 12
    public long find(int job, int i) {
        Job asked = jobOf(job);
        if (asked == null || i < 0) {
            return NO_SUCH;
        }
        walk.start(asked);
        for (int before = 0; before < WALK_BOUND && walk.advance(); before++) {
            if (before == i) {
                return walk.found();
            }
        }
        return walk.isSpent() ? SPENT : NONE;
    }

    // Promise 13
    public int rank(int job, long picture) {
        Job asked = jobOf(job);
        if (asked == null || !asked.board.isPicture(picture)) {
            return NO_SUCH;
        }
        if (!asked.admits(picture)) {
            return NONE;
        }
        walk.start(asked);
        for (int before = 0; before < WALK_BOUND && walk.advance(); before++) {
            if (walk.found() == picture) {
                return before;
            }
        }
        // A picture that fits is met by every walk that isn't spent.
        return SPENT;
    }

    // Promise 14
    public int sure(int job, int square) {
        Job asked = jobOf(job);
        if (asked == null || !asked.board.isSquare(square)) {
            return NO_SUCH;
        }
        walk.start(asked);
        int found = 0;
        int ones = 0;
        while (found < WALK_BOUND && walk.advance()) {
            found++;
            ones += (int) (walk.found() >>> square & 1L);
        }
        if (walk.isSpent()) {
            return SPENT;
        }
        if (found == 0) {
            return NONE;
        }
        return ones == 0 ? 0 : ones == found ? 1 : 2;
    }

    // Promise 15
    public int clash(int job) {
        Job asked = jobOf(job);
        if (asked == null) {
            return NO_SUCH;
        }
        if (asked.sumOfWay(Board.ALONG_ROWS) != asked.sumOfWay(Board.ALONG_COLUMNS)) {
            return 0;
        }
        for (int k = 1; k <= asked.board.wide; k++) {
            if (asked.greatestColumns(k) > asked.roomInRows(k)) {
                return k;
            }
        }
        return NONE;
    }

    // Promise 16
    public int best(int job) throws IllegalArgumentException, IllegalStateException {
        MarkedJob marked = markedJobOf(job);
        return marked.worthOf(worthiest(marked));
    }

    // Promise 17
    public long bestOne(int job) throws IllegalArgumentException, IllegalStateException {
        return worthiest(markedJobOf(job));
    }

    // ---- pictures of a board

    // Promise 18
    public int switches(int wide, int high, long picture) {
        Board board = boardOf(wide, high);
        if (board == null || !board.isPicture(picture)) {
            return NO_SUCH;
        }
        int found = 0;
        for (int four = 0; four < board.fours; four++) {
            if (board.behindFour(four, picture) != picture) {
                found++;
            }
        }
        return found;
    }

    // Promise 19
    public long switched(int wide, int high, long picture, int i) {
        Board board = boardOf(wide, high);
        if (board == null || !board.isPicture(picture) || i < 0) {
            return NO_SUCH;
        }
        int before = 0;
        for (int four = 0; four < board.fours; four++) {
            long behind = board.behindFour(four, picture);
            if (behind != picture) {
                if (before == i) {
                    return behind;
                }
                before++;
            }
        }
        return NONE;
    }

    // Promise 20
    public int far(int wide, int high, long from, long to) {
        Board board = boardOf(wide, high);
        if (board == null || !board.isPicture(from) || !board.isPicture(to)) {
            return NO_SUCH;
        }
        if (board.firstUnlikeWay(from, to, ROWS_AND_COLUMNS) >= 0) {
            return NONE;
        }
        if (from == to) {
            return 0;
        }
        if (meetings == null) {
            meetings = new Meetings();
        }
        return meetings.fewestSwitches(board, from, to);
    }

    // Promise 21
    public int joined(int wide, int high, long picture) {
        Board board = boardOf(wide, high);
        if (board == null || !board.isPicture(picture)) {
            return NO_SUCH;
        }
        return board.hangsTogether(picture) ? 1 : 0;
    }

    // Promise 22
    public int even(int wide, int high, long picture, boolean column) {
        Board board = boardOf(wide, high);
        if (board == null || !board.isPicture(picture)) {
            return NO_SUCH;
        }
        boolean whole = column ? board.columnsAreWhole(picture) : board.rowsAreWhole(picture);
        return whole ? 1 : 0;
    }

    // Promise 23
    public long turned(int wide, int high, long picture, int how) {
        Board board = boardOf(wide, high);
        if (board == null || !board.isPicture(picture) || how < 0 || how > Board.ONES_AND_NOUGHTS) {
            return NO_SUCH;
        }
        return board.turnedPicture(picture, how);
    }

    // Promise 24
    public int parts(int wide, int high, long picture, long other, int ways) {
        Board board = boardOf(wide, high);
        if (board == null || !board.isPicture(picture) || !board.isPicture(other)
                || ways < 0 || ways >= WAY_SETS) {
            return NO_SUCH;
        }
        int way = board.firstUnlikeWay(picture, other, ways);
        return way < 0 ? NONE : way;
    }

    // ---- many pictures: a list

    // Promise 25
    public int list(int wide, int high, long picture) {
        Board board = boardOf(wide, high);
        if (board == null || !board.isPicture(picture)) {
            return NO_SUCH;
        }
        if (listCount >= MOST_LISTED) {
            return NONE;
        }
        if (isOtherThanListed(wide, high) || isListed(picture)) {
            return NOT_FOR_LIST;
        }
        listBoard = board;
        listed[listCount] = picture;
        listCount++;
        return listCount;
    }

    // Promise 26
    public int clear() {
        int had = listCount;
        listCount = 0;
        listBoard = null;
        return had;
    }

    // Promise 27
    public int ways() {
        for (int size = 0; size <= Board.WAYS; size++) {
            for (int set = 0; set < WAY_SETS; set++) {
                if (Integer.bitCount(set) == size && tellsListApart(set)) {
                    return set;
                }
            }
        }
        return NONE;
    }

    // ---- ghosts

    // Promise 28
    public int ghost(int ways, int x, int y) throws IllegalArgumentException {
        if (!isGhostSet(ways) || x < 0 || x >= GHOST_EDGE || y < 0 || y >= GHOST_EDGE) {
            throw new IllegalArgumentException("no such set of ways, or no such place");
        }
        // The one way that goes up takes the ghost above its first place by one.
        int firstY = ways >> Board.UPWARD & 1;
        return ghostNumber(ways, Board.WAYS - 1, x, y - firstY);
    }

    // Promise 29
    public int haunts(int ways, int wide, int high) {
        int places = ghostPlaces(ways, wide, high);
        return places > 0 ? 1 : places;
    }

    // Promise 30
    public int ghosts(int ways, int wide, int high) {
        return ghostPlaces(ways, wide, high);
    }

    // ---- shelves

    // Promise 31
    public int keep(int d, int what, int k, long p) {
        if (!isShelf(d)) {
            return NO_SUCH;
        }
        if (what == KEEP_NOTHING) {
            shelves[d] = null;
            return 0;
        }
        Held thing = thingToKeep(what, jobOf(k), p);
        if (thing == null) {
            return NO_SUCH;
        }
        shelves[d] = thing;
        return 0;
    }

    // Promise 32
    public int make(int d, int what, int n) {
        if (!isShelf(d) || (what != KEEP_BYTES && what != KEEP_LONGS) || n > MOST_ELEMENTS) {
            return NO_SUCH;
        }
        if (n < 0) {
            return SIZE_BELOW_NOUGHT;
        }
        shelves[d] = new Row(what == KEEP_BYTES, n);
        return 0;
    }

    // Promise 33
    public long element(int d, int i) throws IllegalArgumentException, IllegalStateException {
        if (!isShelf(d)) {
            throw new IllegalArgumentException("no such shelf");
        }
        if (shelves[d] instanceof Row row && row.has(i, 1)) {
            return row.numberAt(i);
        }
        throw new IllegalStateException("no row with such a place is held there");
    }

    // Promise 34
    public int copy(int d, int i, int e, int j, int n) {
        if (!isShelf(d) || !isShelf(e)) {
            return NO_SUCH;
        }
        if (shelves[d] == null || shelves[e] == null) {
            return NOTHING_HELD;
        }
        if (shelves[d] instanceof Row from && shelves[e] instanceof Row to
                && from.ofBytes == to.ofBytes) {
            if (!from.has(i, n) || !to.has(j, n)) {
                return NO_PLACE;
            }
            to.takeFrom(from, i, j, n);
            return n;
        }
        return OTHER_THING;
    }

    // Promise 35
    public long layer(int d, int k) {
        if (!isShelf(d) || k < 0 || k >= MOST_GREY) {
            return NO_SUCH;
        }
        if (shelves[d] == null) {
            return NOTHING_HELD;
        }
        if (shelves[d] instanceof Row grey && grey.ofBytes) {
            return layerOf(grey, k);
        }
        return OTHER_THING;
    }

    // Promise 36
    public int weight(int d) throws IllegalArgumentException, IllegalStateException {
        if (!isShelf(d)) {
            throw new IllegalArgumentException("no such shelf");
        }
        if (shelves[d] instanceof Job kept) {
            return kept.heft();
        }
        throw new IllegalStateException("no job is held there");
    }

    // Promise 37
    public int toss(int d) {
        if (!isShelf(d)) {
            return NO_SUCH;
        }
        if (shelves[d] == null) {
            return NOTHING_HELD;
        }
        if (shelves[d] instanceof Job kept) {
            return caughtFailure(kept);
        }
        return OTHER_THING;
    }

    // ---- what the calls share

    private static boolean isWay(int way) {
        return way >= 0 && way < Board.WAYS;
    }

    private static boolean isShelf(int d) {
        return d >= 0 && d < MOST_SHELVES;
    }

    private static boolean isGhostSet(int ways) {
        return ways > 0 && ways < WAY_SETS;
    }

    /** The board of a size, made when it is first asked for; null if there is none. */
    private Board boardOf(int wide, int high) {
        if (wide < 1 || wide > Board.MOST_EDGE || high < 1 || high > Board.MOST_EDGE) {
            return null;
        }
        int place = (high - 1) * Board.MOST_EDGE + wide - 1;
        if (boards[place] == null) {
            boards[place] = new Board(wide, high);
        }
        return boards[place];
    }

    private Job jobOf(int job) {
        return job >= 0 && job < jobCount && job < MOST_JOBS ? jobs[job] : null;
    }

    private static Job newJob(int kind, Board board) {
        switch (kind) {
            case JOINED:
                return new JoinedJob(board);
            case EVEN:
                return new EvenJob(board);
            case MARKED:
                return new MarkedJob(board);
            default:
                return new Job(board);
        }
    }

    private MarkedJob markedJobOf(int job) {
        if (jobOf(job) instanceof MarkedJob marked) {
            return marked;
        }
        throw new IllegalArgumentException("no such job, or it is not marked");
    }

    /** The first picture that fits with the greatest worth. */
    private long worthiest(MarkedJob marked) {
        walk.start(marked);
        int found = 0;
        int most = 0;
        long first = 0L;
        while (found < WALK_BOUND && walk.advance()) {
            int worth = marked.worthOf(walk.found());
            if (found == 0 || worth > most) {
                most = worth;
                first = walk.found();
            }
            found++;
        }
        if (found == 0 || walk.isSpent()) {
            throw new IllegalStateException("none fits, or the walk is spent");
        }
        return first;
    }

    private boolean isOtherThanListed(int wide, int high) {
        return listBoard != null && (listBoard.wide != wide || listBoard.high != high);
    }

    private boolean isListed(long picture) {
        for (int i = 0; i < listCount && i < MOST_LISTED; i++) {
            if (listed[i] == picture) {
                return true;
            }
        }
        return false;
    }

    private boolean tellsListApart(int set) {
        for (int i = 1; i < listCount && i < MOST_LISTED; i++) {
            for (int j = 0; j < i; j++) {
                if (listBoard == null || listBoard.firstUnlikeWay(listed[i], listed[j], set) < 0) {
                    return false;
                }
            }
        }
        return true;
    }

    /** The number at x, y, told from the first place, of the ghost of a set's ways up to one. */
    private static int ghostNumber(int set, int way, int x, int y) {
        if (way < 0 || way >= Board.WAYS) {
            return x == 0 && y == 0 ? 1 : 0;
        }
        int stays = ghostNumber(set, way - 1, x, y);
        if ((set >> way & 1) == 0) {
            return stays;
        }
        return stays - ghostNumber(set, way - 1, x - Board.STEP_X[way], y - Board.STEP_Y[way]);
    }

    private int ghostPlaces(int set, int wide, int high) {
        if (!isGhostSet(set) || boardOf(wide, high) == null) {
            return NO_SUCH;
        }
        int across = wide;
        int down = high;
        for (int way = 0; way < Board.WAYS; way++) {
            if ((set >> way & 1) == 1) {
                across -= Math.abs(Board.STEP_X[way]);
                down -= Math.abs(Board.STEP_Y[way]);
            }
        }
        return across > 0 && down > 0 ? across * down : 0;
    }

    /** What a shelf gets of a job; null if there is no such job, thing or picture. */
    private static Held thingToKeep(int what, Job job, long p) {
        if (job == null) {
            return null;
        }
        if (what == KEEP_JOB) {
            return job.asItIs();
        }
        if (what == KEEP_BYTES && job.board.isPicture(p)) {
            return squaresOf(job.board, p);
        }
        return what == KEEP_LONGS ? sumsOf(job) : null;
    }

    private static Row squaresOf(Board board, long picture) {
        Row row = new Row(true, board.squares);
        for (int square = 0; square < board.squares; square++) {
            row.put(square, picture >>> square & 1L);
        }
        return row;
    }

    private static Row sumsOf(Job job) {
        int high = job.board.high;
        Row row = new Row(false, high + job.board.wide);
        for (int y = 0; y < high; y++) {
            row.put(y, job.sumOf(Board.ALONG_ROWS, y));
        }
        for (int x = 0; x < job.board.wide; x++) {
            row.put(high + x, job.sumOf(Board.ALONG_COLUMNS, x));
        }
        return row;
    }

    private static long layerOf(Row grey, int k) {
        long picture = 0L;
        for (int i = 0; i < grey.size(); i++) {
            long number = grey.numberAt(i);
            if (number < 0 || number > MOST_GREY) {
                return NONE;
            }
            if (number > k) {
                picture |= 1L << i;
            }
        }
        return grey.size() > MOST_GREYS ? NO_PLACE : picture;
    }

    private static int caughtFailure(Job kept) {
        try {
            kept.fail();
        } catch (IllegalStateException failure) {
            return JOINED;
        } catch (IllegalArgumentException failure) {
            return EVEN;
        } catch (UnsupportedOperationException failure) {
            return MARKED;
        }
        return NO_FAILURE;
    }

    /** A size of board, with its lines and its fours of corners as masks. */
    private static final class Board {
        static final int MOST_EDGE = 6;
        static final int WAYS = 4;
        static final int MOST_LINES = 11;
        static final int ALONG_ROWS = 0;
        static final int ALONG_COLUMNS = 1;
        static final int FIRST_SLANT = 2;
        static final int UPWARD = 3;
        static final int[] STEP_X = {1, 0, 1, 1};
        static final int[] STEP_Y = {0, 1, 1, -1};
        static final int QUARTER = 0;
        static final int UPSIDE_DOWN = 1;
        static final int ONES_AND_NOUGHTS = 3;

        final int wide;
        final int high;
        final int squares;
        /** How many pictures one row can have. */
        final int rowNumbers;
        /** How many pairs of rows there are with each pair of columns. */
        final int fours;
        private final long[] lines = new long[WAYS * MOST_LINES];
        private final long[] falling;
        private final long[] rising;

        Board(int wide, int high) {
            this.wide = wide;
            this.high = high;
            squares = wide * high;
            rowNumbers = 1 << wide;
            fours = pairsOf(wide) * pairsOf(high);
            falling = new long[fours];
            rising = new long[fours];
            drawLines();
            drawFours();
        }

        private static int pairsOf(int n) {
            return n > 1 ? n * (n - 1) / 2 : 0;
        }

        private long bit(int x, int y) {
            return 1L << (y * wide + x);
        }

        private int lineThrough(int way, int x, int y) {
            switch (way) {
                case ALONG_ROWS:
                    return y;
                case ALONG_COLUMNS:
                    return x;
                case FIRST_SLANT:
                    return x - y + high - 1;
                default:
                    return x + y;
            }
        }

        private void drawLines() {
            for (int y = 0; y < high; y++) {
                for (int x = 0; x < wide; x++) {
                    for (int way = 0; way < WAYS; way++) {
                        lines[way * MOST_LINES + lineThrough(way, x, y)] |= bit(x, y);
                    }
                }
            }
        }

        private void drawFours() {
            int four = 0;
            for (int y = 0; y < high; y++) {
                for (int v = y + 1; v < high; v++) {
                    four = drawFoursOfRows(four, y, v);
                }
            }
        }

        private int drawFoursOfRows(int first, int y, int v) {
            int four = first;
            for (int x = 0; x < wide; x++) {
                for (int u = x + 1; u < wide && four < fours; u++) {
                    falling[four] = bit(x, y) | bit(u, v);
                    rising[four] = bit(u, y) | bit(x, v);
                    four++;
                }
            }
            return four;
        }

        boolean isSquare(int square) {
            return square >= 0 && square < squares;
        }

        boolean isPicture(long picture) {
            return picture >>> squares == 0L;
        }

        int lineCount(int way) {
            switch (way) {
                case ALONG_ROWS:
                    return high;
                case ALONG_COLUMNS:
                    return wide;
                default:
                    return wide + high - 1;
            }
        }

        boolean isLine(int way, int line) {
            return way >= 0 && way < WAYS && line >= 0 && line < lineCount(way);
        }

        int onesOfLine(int way, int line, long picture) {
            int place = way * MOST_LINES + line;
            return place >= 0 && place < lines.length ? Long.bitCount(picture & lines[place]) : 0;
        }

        /** Row y of a mask of the whole board: bit x is column x. */
        int rowOf(long mask, int y) {
            return (int) (mask >>> (y * wide)) & (rowNumbers - 1);
        }

        /** The least way of a set along which two pictures' shadows are unlike, or -1. */
        int firstUnlikeWay(long picture, long other, int set) {
            for (int way = 0; way < WAYS; way++) {
                if ((set >> way & 1) == 1 && hasUnlikeLine(picture, other, way)) {
                    return way;
                }
            }
            return -1;
        }

        private boolean hasUnlikeLine(long picture, long other, int way) {
            for (int line = 0; line < lineCount(way); line++) {
                if (onesOfLine(way, line, picture) != onesOfLine(way, line, other)) {
                    return true;
                }
            }
            return false;
        }

        /** The picture behind the switch of a four of corners; the same one if it is no switch. */
        long behindFour(int four, long picture) {
            if (four < 0 || four >= fours) {
                return picture;
            }
            long corners = falling[four] | rising[four];
            long ones = picture & corners;
            boolean isSwitch = ones == falling[four] || ones == rising[four];
            return isSwitch ? picture ^ corners : picture;
        }

        boolean hangsTogether(long picture) {
            long left = lines[ALONG_COLUMNS * MOST_LINES];
            long right = left << (wide - 1);
            long reached = picture & -picture;
            for (int step = 1; step < squares && reached != picture; step++) {
                long beside = (reached & ~right) << 1 | (reached & ~left) >>> 1;
                long aboveAndBelow = reached << wide | reached >>> wide;
                reached |= (beside | aboveAndBelow) & picture;
            }
            return reached == picture;
        }

        boolean rowsAreWhole(long picture) {
            for (int y = 0; y < high; y++) {
                int row = rowOf(picture, y);
                // Adding its lowest one carries through a row without gaps and leaves none of it.
                if ((row & (row + (row & -row))) != 0) {
                    return false;
                }
            }
            return true;
        }

        boolean columnsAreWhole(long picture) {
            int begun = 0;
            int ended = 0;
            for (int y = 0; y < high; y++) {
                int row = rowOf(picture, y);
                if ((row & ended) != 0) {
                    return false;
                }
                begun |= row;
                ended = begun & ~row;
            }
            return true;
        }

        long turnedPicture(long picture, int how) {
            if (how == ONES_AND_NOUGHTS) {
                return ~picture & ((1L << squares) - 1L);
            }
            long turnedOne = 0L;
            for (int y = 0; y < high; y++) {
                for (int x = 0; x < wide; x++) {
                    if ((picture & bit(x, y)) != 0L) {
                        turnedOne |= 1L << placeTurned(how, x, y);
                    }
                }
            }
            return turnedOne;
        }

        private int placeTurned(int how, int x, int y) {
            switch (how) {
                case QUARTER:
                    return x * high + high - 1 - y;
                case UPSIDE_DOWN:
                    return (high - 1 - y) * wide + x;
                default:
                    return x * high + y;
            }
        }
    }

    /** What a shelf can hold. */
    private abstract static class Held {
    }

    /** A plain job. The kinds under it have their own asking, heft, failure and copy. */
    private static class Job extends Held {
        static final int FREE = 2;
        static final int LEAST_HEFT = 10;

        final Board board;
        private final int[] sums = new int[Board.WAYS * Board.MOST_LINES];
        private int toldWays = ROWS_AND_COLUMNS;
        private long heldOnes = 0L;
        private long heldNoughts = 0L;

        Job(Board board) {
            this.board = board;
        }

        boolean isTold(int way) {
            return (toldWays >> way & 1) == 1;
        }

        int sumOf(int way, int line) {
            int place = way * Board.MOST_LINES + line;
            return place >= 0 && place < sums.length ? sums[place] : 0;
        }

        void tellLine(int way, int line, int v) {
            if (board.isLine(way, line)) {
                sums[way * Board.MOST_LINES + line] = v;
                toldWays |= 1 << way;
            }
        }

        void tellShadow(int way, long picture) {
            for (int line = 0; line < board.lineCount(way); line++) {
                tellLine(way, line, board.onesOfLine(way, line, picture));
            }
        }

        /** The sums go too: told again, the way begins with noughts. */
        void forgetWay(int way) {
            for (int line = 0; line < board.lineCount(way); line++) {
                tellLine(way, line, 0);
            }
            toldWays &= ~(1 << way);
        }

        int howHeld(int square) {
            if ((heldOnes >>> square & 1L) == 1L) {
                return 1;
            }
            return (heldNoughts >>> square & 1L) == 1L ? 0 : FREE;
        }

        void holdSquare(int square, int how) {
            long bit = 1L << square;
            heldOnes = how == 1 ? heldOnes | bit : heldOnes & ~bit;
            heldNoughts = how == 0 ? heldNoughts | bit : heldNoughts & ~bit;
        }

        int onesHeldInRow(int y) {
            return board.rowOf(heldOnes, y);
        }

        int noughtsHeldInRow(int y) {
            return board.rowOf(heldNoughts, y);
        }

        /** The columns in which a picture has as many ones as are told, or more. */
        int fullColumns(long picture) {
            int full = 0;
            for (int x = 0; x < board.wide; x++) {
                int ones = board.onesOfLine(Board.ALONG_COLUMNS, x, picture);
                if (ones >= sumOf(Board.ALONG_COLUMNS, x)) {
                    full |= 1 << x;
                }
            }
            return full;
        }

        boolean admits(long picture) {
            return (picture & heldNoughts) == 0L && (~picture & heldOnes) == 0L
                    && hasShadowsAsTold(picture) && isAsKindAsks(picture);
        }

        private boolean hasShadowsAsTold(long picture) {
            for (int way = 0; way < Board.WAYS; way++) {
                for (int line = 0; isTold(way) && line < board.lineCount(way); line++) {
                    if (board.onesOfLine(way, line, picture) != sumOf(way, line)) {
                        return false;
                    }
                }
            }
            return true;
        }

        boolean isAsKindAsks(long picture) {
            return true;
        }

        int sumOfWay(int way) {
            int all = 0;
            for (int line = 0; line < board.lineCount(way); line++) {
                all += sumOf(way, line);
            }
            return all;
        }

        /** The k greatest sums of columns, together. */
        int greatestColumns(int k) {
            int all = 0;
            int taken = 0;
            for (int v = MOST_SUM; v > 0; v--) {
                for (int x = 0; x < board.wide; x++) {
                    if (taken < k && sumOf(Board.ALONG_COLUMNS, x) == v) {
                        all += v;
                        taken++;
                    }
                }
            }
            return all;
        }

        /** How many ones k columns can have at most by the sums of the rows. */
        int roomInRows(int k) {
            int all = 0;
            for (int y = 0; y < board.high; y++) {
                all += Math.min(k, sumOf(Board.ALONG_ROWS, y));
            }
            return all;
        }

        int heft() {
            return LEAST_HEFT + board.squares;
        }

        /** Throws the kind's failure; a plain job has none. */
        void fail() {
        }

        /** Another job that stays as this one is now. */
        Job asItIs() {
            return alike(new Job(board));
        }

        /** Gives a new job of this kind all that is told and held here. */
        Job alike(Job other) {
            System.arraycopy(sums, 0, other.sums, 0, sums.length);
            other.toldWays = toldWays;
            other.heldOnes = heldOnes;
            other.heldNoughts = heldNoughts;
            return other;
        }
    }

    private static class JoinedJob extends Job {
        static final int MORE_HEFT = 100;

        JoinedJob(Board board) {
            super(board);
        }

        boolean isAsKindAsks(long picture) {
            return board.hangsTogether(picture);
        }

        int heft() {
            return super.heft() + MORE_HEFT;
        }

        void fail() {
            throw new IllegalStateException("joined");
        }

        Job asItIs() {
            return alike(new JoinedJob(board));
        }
    }

    private static final class EvenJob extends JoinedJob {
        EvenJob(Board board) {
            super(board);
        }

        boolean isAsKindAsks(long picture) {
            return super.isAsKindAsks(picture)
                    && board.rowsAreWhole(picture) && board.columnsAreWhole(picture);
        }

        int heft() {
            return 2 * super.heft();
        }

        void fail() {
            throw new IllegalArgumentException("even");
        }

        Job asItIs() {
            return alike(new EvenJob(board));
        }
    }

    private static final class MarkedJob extends Job {
        private final int[] marks;

        MarkedJob(Board board) {
            super(board);
            marks = new int[board.squares];
        }

        /** Whether the mark is another one than before. */
        boolean setMark(int square, int v) {
            if (square < 0 || square >= marks.length || marks[square] == v) {
                return false;
            }
            marks[square] = v;
            return true;
        }

        int worthOf(long picture) {
            int worth = 0;
            for (int square = 0; square < marks.length; square++) {
                if ((picture >>> square & 1L) == 1L) {
                    worth += marks[square];
                }
            }
            return worth;
        }

        int heft() {
            return super.heft() + worthOf(-1L);
        }

        void fail() {
            throw new UnsupportedOperationException("marked");
        }

        Job asItIs() {
            MarkedJob other = new MarkedJob(board);
            System.arraycopy(marks, 0, other.marks, 0, marks.length);
            return alike(other);
        }
    }

    /** A row of bytes or of longs; bytes never meet longs, so both can stand in longs here. */
    private static final class Row extends Held {
        final boolean ofBytes;
        private final long[] numbers;

        Row(boolean ofBytes, int n) {
            this.ofBytes = ofBytes;
            numbers = new long[n > 0 ? n : 0];
        }

        int size() {
            return numbers.length;
        }

        /** Whether there are n places from place i on. */
        boolean has(int i, int n) {
            return i >= 0 && n >= 0 && i <= numbers.length && n <= numbers.length - i;
        }

        long numberAt(int i) {
            return has(i, 1) ? numbers[i] : 0L;
        }

        void put(int i, long number) {
            if (has(i, 1)) {
                numbers[i] = number;
            }
        }

        void takeFrom(Row from, int i, int j, int n) {
            if (from.has(i, n) && has(j, n)) {
                System.arraycopy(from.numbers, i, numbers, j, n);
            }
        }
    }

    /** Goes through the pictures that fit a job, row by row, and counts the rows that it tries. */
    private static final class Walk {
        private static final int MOST_TRIES = 200000;
        /** A turn goes on with a row or steps back from one, so this is never reached. */
        private static final int MOST_TURNS = 1000000;

        private Job job = null;
        private int y = -1;
        private int tried = 0;
        private boolean spent = false;
        private long found = 0L;
        private final int[] nextRow = new int[Board.MOST_EDGE];
        private final int[] rowSum = new int[Board.MOST_EDGE];
        private final int[] needed = new int[Board.MOST_EDGE];
        private final int[] barred = new int[Board.MOST_EDGE];
        private final long[] drawn = new long[Board.MOST_EDGE];

        void start(Job asked) {
            job = asked;
            tried = 0;
            spent = false;
            found = 0L;
            enterRow(0, 0L);
        }

        boolean isSpent() {
            return spent;
        }

        long found() {
            return found;
        }

        /** Goes on to the next picture that fits; false if there is none, or the walk is spent. */
        boolean advance() {
            for (int turn = 0; turn < MOST_TURNS && hasRow() && !spent; turn++) {
                int row = nextGoingOn();
                if (row < 0) {
                    y--;
                } else if (completes(row)) {
                    return true;
                }
            }
            return false;
        }

        private boolean hasRow() {
            return job != null && y >= 0 && y < job.board.high && y < Board.MOST_EDGE;
        }

        private void enterRow(int next, long above) {
            y = next;
            if (hasRow()) {
                nextRow[y] = 0;
                rowSum[y] = job.sumOf(Board.ALONG_ROWS, y);
                needed[y] = job.onesHeldInRow(y);
                barred[y] = job.noughtsHeldInRow(y) | job.fullColumns(above);
                drawn[y] = above;
            }
        }

        /** Tries rows at y till one may go on; -1 if none may, or the walk is spent. */
        private int nextGoingOn() {
            int end = job.board.rowNumbers;
            int row = nextRow[y];
            while (row < end && tried < MOST_TRIES) {
                tried++;
                if ((row & barred[y]) == 0 && (row & needed[y]) == needed[y]
                        && Integer.bitCount(row) == rowSum[y]) {
                    nextRow[y] = row + 1;
                    return row;
                }
                row++;
            }
            spent = row < end;
            return -1;
        }

        /** Goes on with a row; true if it is the last one of a picture that fits. */
        private boolean completes(int row) {
            long picture = drawn[y] | (long) row << (y * job.board.wide);
            if (y + 1 < job.board.high) {
                enterRow(y + 1, picture);
                return false;
            }
            found = picture;
            return job.admits(picture);
        }
    }

    /** Meets pictures from switch to switch, and remembers them in their order. */
    private static final class Meetings {
        private static final int MOST = 20000;
        private static final int SLOT_BITS = 15;
        private static final int SLOTS = 1 << SLOT_BITS;
        private static final long SCATTER = 0x9E3779B97F4A7C15L;

        private final long[] met = new long[MOST];
        private int size = 0;
        /** Where a picture stands in met, from 1 on; 0 is an empty slot. */
        private final int[] slots = new int[SLOTS];

        /** The steps between two unlike pictures with the same rows and columns, or SPENT. */
        int fewestSwitches(Board board, long from, long to) {
            Arrays.fill(slots, 0);
            size = 0;
            meet(from);
            int steps = 0;
            int ringEnd = 1;
            for (int at = 0; at < MOST && at < size; at++) {
                if (at == ringEnd) {
                    steps++;
                    ringEnd = size;
                }
                boolean hadRoom = meetNeighbours(board, met[at]);
                if (knows(to)) {
                    return steps + 1;
                }
                if (!hadRoom) {
                    return SPENT;
                }
            }
            // Switches lead to every picture with these rows and columns, so no search ends here.
            return SPENT;
        }

        /** False where one more would be met than may be. */
        private boolean meetNeighbours(Board board, long picture) {
            for (int four = 0; four < board.fours; four++) {
                long behind = board.behindFour(four, picture);
                if (behind != picture && !meet(behind)) {
                    return false;
                }
            }
            return true;
        }

        private boolean knows(long picture) {
            return slots[slotFor(picture)] != 0;
        }

        /** False if it was not met yet and there is no room for it. */
        private boolean meet(long picture) {
            int slot = slotFor(picture);
            if (slots[slot] != 0) {
                return true;
            }
            if (size >= MOST) {
                return false;
            }
            met[size] = picture;
            size++;
            slots[slot] = size;
            return true;
        }

        /** The slot where a picture is, or else the empty one where it would be. */
        private int slotFor(long picture) {
            int slot = (int) (picture * SCATTER >>> (64 - SLOT_BITS)) & (SLOTS - 1);
            for (int step = 0; step < SLOTS && isTakenByOther(slot, picture); step++) {
                slot = (slot + 1) & (SLOTS - 1);
            }
            return slot;
        }

        private boolean isTakenByOther(int slot, long picture) {
            int place = slots[slot] - 1;
            return place >= 0 && place < MOST && met[place] != picture;
        }
    }
}
