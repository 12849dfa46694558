import java.util.function.ToLongFunction;

/**
 * All that calls can tell of a bench, so that two benches can be held against each other. It is
 * looked at in parts, each on a bench of its own: an object serves 512 calls alone, and some calls
 * tell what there is by changing it.
 */
final class Look {
    /** The calls that bring a new bench to where it is looked at. */
    interface State {
        void build(ShadowBench b);
    }

    private static final int JOBS = 8;
    private static final int LIST = 8;
    private static final int LOW_SHELVES = 9;
    private static final int HIGH_SHELVES = 10;
    private static final int ROOM = 11;
    static final int PARTS = 12;

    /** Pictures of a board of three by three, the ones that the states list among them. */
    private static final long[] THREES = {273, 84, 140, 98, 161, 266, 0, 511, 1, 2, 4, 8, 16, 32,
        64, 128, 256};

    /** Nothing was called yet. */
    static final State FRESH = b -> { };

    /** Jobs of all kinds, a list, and each thing that a shelf can hold; room for more of each. */
    static final State SOME = b -> {
        jobs(b);
        shelves(b);
        list(b, 3);
    };

    /** As many jobs and as long a list as there may be. */
    static final State FULL = b -> {
        SOME.build(b);
        b.job(3, 2, 3);
        b.sum(5, 0, 0, 1);
        b.mark(5, 5, -99);
        b.job(2, 1, 1);
        b.cast(6, 0, 1);
        b.cast(6, 1, 1);
        b.job(0, 6, 6);
        b.hold(7, 35, 0);
        list(b, 12);
    };

    private Look() {
    }

    private static void jobs(ShadowBench b) {
        b.job(0, 3, 3);
        told(b, 0, 273);
        b.cast(0, 2, 273);
        b.hold(0, 4, 1);
        b.job(1, 4, 2);
        told(b, 1, 0b0110_0011);
        b.hold(1, 7, 0);
        b.job(2, 3, 4);
        told(b, 2, 0b011_011_010_000);
        b.job(3, 3, 3);
        told(b, 3, 273);
        for (int square = 0; square < 9; square++) {
            b.mark(3, square, square * square - 20);
        }
        b.job(0, 6, 1);
        b.sum(4, 0, 0, 2);
        b.sum(4, 1, 0, 1);
        b.sum(4, 1, 5, 1);
        b.sum(4, 3, 2, 6);
    }

    private static void told(ShadowBench b, int job, long picture) {
        b.cast(job, 0, picture);
        b.cast(job, 1, picture);
    }

    /** Shelves 0 to 3 hold jobs, 4 and 6 rows of bytes, 5 a row of longs, 7 nothing. */
    private static void shelves(ShadowBench b) {
        for (int d = 0; d < 4; d++) {
            b.keep(d, 1, d, 0);
        }
        b.keep(4, 3, 0, 341);
        b.keep(5, 4, 1, 0);
        b.make(6, 3, 40);
        b.copy(4, 0, 6, 20, 9);
    }

    private static void list(ShadowBench b, int most) {
        for (int i = 0; i < most; i++) {
            b.list(3, 3, THREES[i]);
        }
    }

    /** What a part of all the answers is. */
    static String part(int part, ShadowBench b) {
        StringBuilder text = new StringBuilder();
        if (part < JOBS) {
            job(text, b, part);
        } else if (part == LIST) {
            listed(text, b);
        } else if (part == LOW_SHELVES || part == HIGH_SHELVES) {
            for (int d = 0; d < 4; d++) {
                shelf(text, b, part == LOW_SHELVES ? d : d + 4);
            }
        } else if (part == ROOM) {
            for (int i = 0; i < 9; i++) {
                text.append(b.job(0, 1, 1)).append(' ');
            }
        }
        return text.toString();
    }

    private static void job(StringBuilder text, ShadowBench b, int job) {
        if (b.told(job, 0, -1) < 0) {
            text.append("no job ").append(job);
            return;
        }
        for (int way = 0; way < 4; way++) {
            text.append("\n told ").append(way).append(':');
            for (int line = -1; line < b.told(job, way, -1); line++) {
                text.append(b.told(job, way, line)).append(' ');
            }
        }
        int squares = b.told(job, 0, -1) * b.told(job, 1, -1);
        fitting(text, b, job, squares);
        text.append("\n untell:").append(b.untell(job, 2)).append(b.untell(job, 3));
        text.append("\n held:");
        for (int square = 0; square < squares; square++) {
            text.append(b.hold(job, square, 2));
        }
        marks(text, b, job, squares);
    }

    private static void fitting(StringBuilder text, ShadowBench b, int job, int squares) {
        text.append("\n count ").append(b.count(job)).append(" clash ").append(b.clash(job));
        text.append(" best ").append(answer(b, x -> x.best(job)));
        text.append(' ').append(answer(b, x -> x.bestOne(job)));
        text.append("\n find:");
        for (int i = 0; i < 7; i++) {
            text.append(b.find(job, i)).append(' ');
        }
        text.append(b.rank(job, 84)).append(' ').append(b.fits(job, 0));
        text.append("\n sure:");
        for (int square = 0; square < squares; square++) {
            text.append(b.sure(job, square));
        }
    }

    /** The weights, told by what the job weighs less when each is taken away. */
    private static void marks(StringBuilder text, ShadowBench b, int job, int squares) {
        text.append("\n marks:");
        for (int square = 0; square < squares && b.mark(job, 0, 0) >= 0; square++) {
            text.append(b.mark(job, square, 0)).append(' ');
            b.keep(0, 1, job, 0);
            text.append(b.weight(0)).append(' ');
        }
    }

    private static void listed(StringBuilder text, ShadowBench b) {
        text.append(" ways ").append(b.ways()).append(" list:");
        text.append(b.list(2, 2, 1)).append(' ');
        for (long picture : THREES) {
            text.append(b.list(3, 3, picture)).append(' ');
        }
        text.append(b.ways()).append(" clear ").append(b.clear());
        text.append(' ').append(b.list(2, 2, 1)).append(b.list(3, 3, 1));
    }

    private static void shelf(StringBuilder text, ShadowBench b, int d) {
        text.append("\n shelf ").append(d).append(": toss ").append(b.toss(d));
        text.append(" layers ").append(b.layer(d, 0)).append(' ').append(b.layer(d, 1));
        text.append(" weight ").append(answer(b, x -> x.weight(d))).append(" elements ");
        String element = "";
        for (int i = 0; i < 61 && !element.startsWith("throws"); i++) {
            int place = i;
            element = answer(b, x -> x.element(d, place));
            text.append(element).append(' ');
        }
    }

    static String answer(ShadowBench b, ToLongFunction<ShadowBench> call) {
        try {
            return Long.toString(call.applyAsLong(b));
        } catch (RuntimeException e) {
            String whose = Check.isOfTheBench(e) ? "throws." : "the machine throws.";
            return whose + e.getClass().getSimpleName();
        }
    }
}
