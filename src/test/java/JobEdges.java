/** The boundary cases of promises 1 to 8: jobs, and what is told and held of them. */
final class JobEdges {
    private static final int LOW = Calls.LOW;
    private static final int TOP = Calls.TOP;

    private JobEdges() {
    }

    @Says(promise = 1, words = "No JOBS.")
    static void aNewObject() {
        ShadowBench b = new ShadowBench();
        for (int job = -1; job <= 8; job++) {
            for (Calls.OfNumber call : Calls.JOB) {
                Check.due(call.ask(b, job), -1);
            }
        }
        Check.due(b.job(0, 1, 1), 0);
        // Another new object has none of the first one's.
        ShadowBench other = new ShadowBench();
        Check.due(other.count(0), -1);
        Check.thrown(IllegalArgumentException.class, () -> other.best(0));
        Check.thrown(IllegalArgumentException.class, () -> other.bestOne(0));
        Check.due(other.clear(), 0);
        Check.due(other.ways(), 0);
        for (int d = 0; d < 8; d++) {
            Check.due(other.toss(d), -11);
        }
        Check.due(other.job(3, 6, 6), 0);
        Check.due(b.told(0, 0, -1), 1);
    }

    @Says(promise = 2, words = {"A JOB of a KIND 0 .. 3: its number.", "-1;"})
    static void job() {
        for (int kind = 0; kind < 4; kind++) {
            ShadowBench b = new ShadowBench();
            Check.due(b.job(kind, 1, 6), 0);
            Check.due(b.job(kind, 6, 1), 1);
            Check.due(b.keep(0, 1, 0, 0), 0);
            Check.due(b.weight(0), new int[] {16, 116, 232, 16}[kind]);
            Check.due(b.mark(1, 5, 1), kind == 3 ? 1 : -4);
        }
        for (int kind : new int[] {-1, 4, LOW, TOP}) {
            Refused.everywhere(-1, b -> b.job(kind, 3, 3));
        }
        for (int edge : new int[] {0, 7, -1, LOW, TOP}) {
            Refused.everywhere(-1, b -> b.job(0, edge, 1));
            Refused.everywhere(-1, b -> b.job(0, 1, edge));
        }
    }

    @Says(promise = 2, words = "-2: there are 8.")
    static void jobsAreEight() {
        ShadowBench b = new ShadowBench();
        for (int job = 0; job < 8; job++) {
            Check.due(b.job(4, 1, 1), -1);
            Check.due(b.job(job % 4, 2, 2), job);
        }
        Check.due(b.job(0, 2, 2), -2);
        Refused.in(Look.FULL, -2, x -> x.job(0, 1, 1));
        Refused.in(Look.FULL, -2, x -> x.job(3, 6, 6));
        // There is none of its number then.
        Check.due(b.count(8), -1);
        Check.due(b.count(7), 1);
    }

    @Says(promise = 3, words = {"The SUM of a LINE of a WAY (0 .. 6): 0.", "-1."})
    static void sum() {
        int[] lines = {2, 3, 4, 4};
        for (int way = 0; way < 4; way++) {
            int theWay = way;
            int last = lines[way] - 1;
            ShadowBench b = Calls.with(0, 3, 2);
            for (int v = 0; v <= 6; v++) {
                Check.due(b.sum(0, way, 0, v), 0);
                Check.due(b.told(0, way, 0), v);
                Check.due(b.sum(0, way, last, 6 - v), 0);
                Check.due(b.told(0, way, last), 6 - v);
            }
            // Job 1 of SOME is four wide, two high.
            int beyond = new int[] {2, 4, 5, 5}[way];
            for (int line : new int[] {-1, beyond, -2, LOW, TOP}) {
                Refused.in(Look.SOME, -1, x -> x.sum(1, theWay, line, 1));
            }
            for (int v : new int[] {-1, 7, 8, LOW, TOP}) {
                Refused.in(Look.SOME, -1, x -> x.sum(1, theWay, 0, v));
            }
        }
        for (int way : new int[] {-1, 4, LOW, TOP}) {
            Refused.in(Look.SOME, -1, x -> x.sum(1, way, 0, 1));
        }
        for (int job : new int[] {-1, 5, 8, LOW, TOP}) {
            Refused.in(Look.SOME, -1, x -> x.sum(job, 0, 0, 1));
        }
        lineOfOneJobAlone();
    }

    /** Another line, another way and another job stay as they are. */
    private static void lineOfOneJobAlone() {
        ShadowBench b = new ShadowBench();
        b.job(0, 6, 6);
        b.job(0, 6, 6);
        Check.due(b.sum(0, 0, 5, 6), 0);
        for (int line = 0; line < 6; line++) {
            Check.due(b.told(0, 0, line), line == 5 ? 6 : 0);
            Check.due(b.told(0, 1, line), 0);
            Check.due(b.told(1, 0, line), 0);
        }
    }

    @Says(promise = 3, words = "A WAY 2, 3 of which no LINE was told is told then, its other LINES "
            + "0.")
    static void sumTellsAWay() {
        for (int way = 2; way < 4; way++) {
            for (int line = 0; line < 11; line++) {
                ShadowBench b = Calls.with(0, 6, 6);
                Check.due(b.told(0, way, line), -2);
                Check.due(b.sum(0, way, line, 6), 0);
                for (int other = 0; other < 11; other++) {
                    Check.due(b.told(0, way, other), other == line ? 6 : 0);
                    Check.due(b.told(0, 5 - way, other), -2);
                }
                Check.due(b.fits(0, 0), 0);
                // A second line leaves the first one as it is told.
                Check.due(b.sum(0, way, 10 - line, 1), 0);
                Check.due(b.told(0, way, line), line == 5 ? 1 : 6);
                Check.due(b.untell(0, way), 1);
            }
            // A sum of 0 tells the way as well.
            ShadowBench b = Calls.with(0, 6, 6);
            Check.due(b.sum(0, way, 0, 0), 0);
            Check.due(b.told(0, way, 10), 0);
            Check.due(b.untell(0, way), 1);
        }
        // A refused one tells nothing.
        Refused.in(Look.SOME, -1, b -> b.sum(0, 3, 0, 7));
        Refused.in(Look.SOME, -1, b -> b.sum(0, 3, 5, 0));
        Refused.in(Look.SOME, -1, b -> b.sum(0, 3, -1, 0));
        // Told anew, it begins with noughts.
        ShadowBench anew = Calls.with(0, 6, 6);
        anew.cast(0, 2, Calls.full(6, 6));
        Check.due(anew.untell(0, 2), 1);
        Check.due(anew.sum(0, 2, 10, 1), 0);
        for (int line = 0; line < 10; line++) {
            Check.due(anew.told(0, 2, line), 0);
        }
    }

    @Says(promise = 4, words = {"All SUMS of a WAY become the SHADOW of a PICTURE: how many ones it "
            + "has.", "-1."})
    static void cast() {
        long full = Calls.full(6, 6);
        for (int way = 0; way < 4; way++) {
            int theWay = way;
            int lines = way < 2 ? 6 : 11;
            ShadowBench b = Calls.with(0, 6, 6);
            Check.due(b.cast(0, way, full), 36);
            for (int line = 0; line < lines; line++) {
                Check.due(b.told(0, way, line), way < 2 ? 6 : Math.min(line, 10 - line) + 1);
            }
            Check.due(b.cast(0, way, 1), 1);
            int corner = way == 2 ? 5 : 0;
            for (int line = 0; line < lines; line++) {
                Check.due(b.told(0, way, line), line == corner ? 1 : 0);
            }
            // The picture without ones tells noughts.
            Check.due(b.cast(0, way, 0), 0);
            for (int line = 0; line < lines; line++) {
                Check.due(b.told(0, way, line), 0);
            }
            for (int other = 0; other < 4; other++) {
                Check.due(b.told(0, other, 0), other == way || other < 2 ? 0 : -2);
            }
            for (long p : new long[] {512, -1, Long.MIN_VALUE, Long.MAX_VALUE}) {
                Refused.in(Look.SOME, -1, x -> x.cast(0, theWay, p));
            }
        }
        for (int way : new int[] {-1, 4, LOW, TOP}) {
            Refused.in(Look.SOME, -1, x -> x.cast(0, way, 1));
        }
        for (int job : new int[] {-1, 5, LOW, TOP}) {
            Refused.in(Look.SOME, -1, x -> x.cast(job, 0, 1));
        }
        Refused.in(Look.FULL, -1, x -> x.cast(7, 0, full + 1));
    }

    @Says(promise = 5, words = {"WAY 2, 3 is not told any more: whether it was.", "-1."})
    static void untell() {
        for (int way = 2; way < 4; way++) {
            ShadowBench b = Calls.toldBy(0, 3, 3, 273);
            Check.due(b.untell(0, way), 0);
            Check.due(b.cast(0, 2, 84), 3);
            Check.due(b.cast(0, 3, 84), 3);
            Check.due(b.fits(0, 273), 0);
            Check.due(b.untell(0, way), 1);
            Check.due(b.untell(0, way), 0);
            Check.due(b.told(0, way, 0), -2);
            Check.due(b.told(0, way, -1), 5);
            Check.due(b.told(0, 5 - way, 2), way == 2 ? 3 : 1);
            Check.due(b.untell(0, 5 - way), 1);
            Check.due(b.fits(0, 273), 1);
        }
        for (int way : new int[] {0, 1, 4, -1, -2, LOW, TOP}) {
            Refused.in(Look.SOME, -1, b -> b.untell(0, way));
            Refused.in(Look.SOME, -1, b -> b.untell(4, way));
        }
        for (int job : new int[] {-1, 5, LOW, TOP}) {
            Refused.in(Look.SOME, -1, b -> b.untell(job, 2));
        }
    }

    @Says(promise = 6, words = {"A SQUARE is HELD at 0, 1, or not any more (2): how it was.", "-1."})
    static void hold() {
        for (int square : new int[] {0, 5, 6, 31, 32, 35}) {
            for (int was = 0; was <= 2; was++) {
                for (int how = 0; how <= 2; how++) {
                    ShadowBench b = Calls.with(0, 6, 6);
                    Check.due(b.hold(0, square, was), 2);
                    Check.due(b.hold(0, square, how), was);
                    Check.due(b.fits(0, 0), how == 1 ? 0 : 1);
                    Check.due(b.hold(0, square, 2), how);
                    Check.due(b.hold(0, square, 2), 2);
                    Check.due(b.hold(0, (square + 1) % 36, 2), 2);
                }
            }
        }
        // Job 2 of SOME has twelve squares.
        for (int square : new int[] {12, -1, 36, LOW, TOP}) {
            Refused.in(Look.SOME, -1, b -> b.hold(2, square, 1));
        }
        for (int how : new int[] {-1, 3, LOW, TOP}) {
            Refused.in(Look.SOME, -1, b -> b.hold(2, 11, how));
            Refused.in(Look.SOME, -1, b -> b.hold(0, 4, how));
        }
        for (int job : new int[] {-1, 5, LOW, TOP}) {
            Refused.in(Look.SOME, -1, b -> b.hold(job, 0, 0));
        }
        Refused.in(Look.FULL, -1, b -> b.hold(7, 36, 0));
        Refused.in(Look.FULL, -1, b -> b.hold(6, 1, 0));
    }

    @Says(promise = 7, words = {"A SQUARE's weight in a MARKED JOB: 1 if it is another than before, "
            + "else 0.", "-1;"})
    static void mark() {
        ShadowBench b = Calls.with(3, 6, 6);
        int sum = 0;
        for (int square : new int[] {0, 35}) {
            Check.due(b.mark(0, square, 0), 0);
            for (int v : new int[] {1, -1, 99, -99, 98, 0, 50}) {
                Check.due(b.mark(0, square, v), 1);
                Check.due(b.mark(0, square, v), 0);
                b.keep(0, 1, 0, 0);
                Check.due(b.weight(0), 46 + sum + v);
            }
            sum += 50;
        }
        for (int square : new int[] {9, -1, 36, LOW, TOP}) {
            Refused.in(Look.SOME, -1, x -> x.mark(3, square, 1));
        }
        for (int v : new int[] {100, -100, LOW, TOP}) {
            Refused.in(Look.SOME, -1, x -> x.mark(3, 8, v));
        }
        for (int job : new int[] {-1, 5, LOW, TOP}) {
            Refused.in(Look.SOME, -1, x -> x.mark(job, 0, 1));
        }
    }

    @Says(promise = 7, words = "-4: it is of another KIND.")
    static void markOfAnotherKind() {
        for (int job = 0; job < 3; job++) {
            int other = job;
            for (int v : new int[] {0, 1, 99, -99}) {
                Refused.in(Look.SOME, -4, b -> b.mark(other, 0, v));
            }
            // Wrong in another way too: that comes first.
            Refused.in(Look.SOME, -1, b -> b.mark(other, 99, 1));
            Refused.in(Look.SOME, -1, b -> b.mark(other, 0, 100));
            Refused.in(Look.SOME, -1, b -> b.mark(other, 0, -100));
        }
    }

    @Says(promise = 8, words = "The number of LINES of a WAY of a JOB (line -1; told or not), the "
            + "SUM of a LINE;")
    static void told() {
        for (int wide = 1; wide <= 6; wide++) {
            for (int high = 1; high <= 6; high++) {
                int[] lines = {high, wide, wide + high - 1, wide + high - 1};
                ShadowBench b = Calls.with(0, wide, high);
                for (int way = 0; way < 4; way++) {
                    Check.due(b.told(0, way, -1), lines[way]);
                    Check.due(b.sum(0, way, lines[way] - 1, 5), 0);
                    Check.due(b.told(0, way, -1), lines[way]);
                    Check.due(b.told(0, way, lines[way] - 1), 5);
                    Check.due(b.told(0, way, 0), lines[way] == 1 ? 5 : 0);
                }
            }
        }
    }

    @Says(promise = 8, words = "-2: the WAY is not told.")
    static void toldOfAWayThatIsNot() {
        for (int way = 2; way < 4; way++) {
            ShadowBench b = Calls.with(0, 3, 3);
            for (int line = 0; line < 5; line++) {
                Check.due(b.told(0, way, line), -2);
            }
            b.sum(0, way, 0, 0);
            Check.due(b.told(0, way, 4), 0);
            b.untell(0, way);
            Check.due(b.told(0, way, 4), -2);
        }
        Refused.in(Look.SOME, -2, b -> b.told(0, 3, 0));
        Refused.in(Look.SOME, -2, b -> b.told(0, 3, 4));
        Refused.in(Look.SOME, -2, b -> b.told(1, 2, 0));
    }

    @Says(promise = 8, words = "-1.")
    static void toldOfNothing() {
        for (int way = 0; way < 4; way++) {
            int theWay = way;
            int beyond = new int[] {2, 4, 5, 5}[way];
            for (int line : new int[] {-2, -3, beyond, beyond + 1, LOW, TOP}) {
                Refused.in(Look.SOME, -1, b -> b.told(1, theWay, line));
            }
            Refused.in(Look.SOME, -1, b -> b.told(5, theWay, -1));
            Refused.in(Look.SOME, -1, b -> b.told(-1, theWay, 0));
        }
        for (int way : new int[] {-1, 4, LOW, TOP}) {
            Refused.in(Look.SOME, -1, b -> b.told(1, way, 0));
            Refused.in(Look.SOME, -1, b -> b.told(1, way, -1));
        }
    }
}
