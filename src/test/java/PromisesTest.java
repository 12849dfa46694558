/**
 * Each promise of the document with ordinary inputs, the edges that it names, and wrong inputs. The
 * method pN tells of promise N.
 */
public final class PromisesTest {
    private static final int LOW = Integer.MIN_VALUE;
    private static final int TOP = Integer.MAX_VALUE;

    private PromisesTest() {
    }

    public static void main(String[] args) {
        p1();
        p2();
        p3();
        p4();
        p5();
        p6();
        p7();
        p8();
        p9();
        p10();
        p11();
        p12();
        p13();
        p14();
        p15();
        p16();
        p17();
        p18();
        p19();
        p20();
        p21();
        p22();
        p23();
        p24();
        p25();
        p26();
        p27();
        p28();
        p29();
        p30();
        p31();
        p32();
        p33();
        p34();
        p35();
        p36();
        p37();
        Check.end();
    }

    /** A picture, row by row from row 0; '#' is a one. */
    private static long pic(String... rows) {
        long all = 0;
        int square = 0;
        for (String row : rows) {
            for (char c : row.toCharArray()) {
                all |= c == '#' ? 1L << square : 0L;
                square++;
            }
        }
        return all;
    }

    private static ShadowBench with(int kind, int wide, int high) {
        ShadowBench b = new ShadowBench();
        Check.due(b.job(kind, wide, high), 0);
        return b;
    }

    /** A job whose rows and columns are told by a picture. */
    private static ShadowBench toldBy(int kind, int wide, int high, long picture) {
        ShadowBench b = with(kind, wide, high);
        b.cast(0, 0, picture);
        b.cast(0, 1, picture);
        return b;
    }

    private static void p1() {
        ShadowBench b = new ShadowBench();
        for (int job : new int[] {0, 1, 7, 8, -1}) {
            Check.due(b.count(job), -1);
            Check.due(b.told(job, 0, -1), -1);
        }
        Check.due(b.clear(), 0);
        for (int d = 0; d < 8; d++) {
            Check.due(b.toss(d), -11);
        }
        b.job(0, 2, 2);
        Check.due(new ShadowBench().count(0), -1);
    }

    private static void p2() {
        ShadowBench b = new ShadowBench();
        for (int kind : new int[] {-1, 4, LOW, TOP}) {
            Check.due(b.job(kind, 3, 3), -1);
        }
        for (int edge : new int[] {0, -1, 7, LOW, TOP}) {
            Check.due(b.job(0, edge, 3), -1);
            Check.due(b.job(0, 3, edge), -1);
        }
        for (int i = 0; i < 8; i++) {
            Check.due(b.job(i % 4, i % 6 + 1, 6 - i % 6), i);
            Check.due(b.told(i, 0, -1), 6 - i % 6);
            Check.due(b.told(i, 1, -1), i % 6 + 1);
        }
        Check.due(b.job(0, 3, 3), -2);
        Check.due(b.job(4, 3, 3), -1);
        Check.due(b.job(0, 7, 3), -1);
        Check.due(b.count(7), 1);
        Check.due(b.count(8), -1);
    }

    private static void p3() {
        ShadowBench b = with(0, 3, 2);
        Check.due(b.sum(0, 0, 1, 6), 0);
        Check.due(b.told(0, 0, 1), 6);
        Check.due(b.told(0, 0, 0), 0);
        Check.due(b.sum(0, 1, 2, 1), 0);
        Check.due(b.told(0, 1, 2), 1);
        Check.due(b.sum(0, 1, 2, 0), 0);
        Check.due(b.told(0, 1, 2), 0);
        Check.due(b.told(0, 2, 3), -2);
        Check.due(b.sum(0, 2, 3, 2), 0);
        Check.due(b.told(0, 2, 3), 2);
        Check.due(b.told(0, 2, 0), 0);
        Check.due(b.told(0, 3, 0), -2);
        Check.due(b.sum(0, 3, 0, 0), 0);
        Check.due(b.told(0, 3, 0), 0);
        Check.due(b.sum(0, 2, 0, 1), 0);
        Check.due(b.told(0, 2, 3), 2);
        Check.due(b.sum(1, 0, 0, 1), -1);
        Check.due(b.sum(-1, 0, 0, 1), -1);
        Check.due(b.sum(0, 4, 0, 1), -1);
        Check.due(b.sum(0, -1, 0, 1), -1);
        Check.due(b.sum(0, LOW, 0, 1), -1);
        Check.due(b.sum(0, 0, 2, 1), -1);
        Check.due(b.sum(0, 1, 3, 1), -1);
        Check.due(b.sum(0, 2, 4, 1), -1);
        Check.due(b.sum(0, 3, 4, 1), -1);
        Check.due(b.sum(0, 0, -1, 1), -1);
        Check.due(b.sum(0, 0, TOP, 1), -1);
        Check.due(b.sum(0, 0, 0, 7), -1);
        Check.due(b.sum(0, 0, 0, -1), -1);
        Check.due(b.told(0, 0, 0), 0);
        ShadowBench untold = with(0, 3, 2);
        Check.due(untold.sum(0, 2, 0, 7), -1);
        Check.due(untold.sum(0, 3, 4, 0), -1);
        Check.due(untold.told(0, 2, 0), -2);
        Check.due(untold.told(0, 3, 0), -2);
    }

    private static void p4() {
        ShadowBench b = with(0, 3, 2);
        long p = pic("##.", "#.#");
        Check.due(b.cast(0, 0, p), 4);
        Check.due(b.cast(0, 1, p), 4);
        Check.due(b.cast(0, 2, p), 4);
        int[][] due = {{2, 2}, {2, 1, 1}, {1, 1, 2, 0}};
        for (int way = 0; way < 3; way++) {
            for (int line = 0; line < due[way].length; line++) {
                Check.due(b.told(0, way, line), due[way][line]);
            }
        }
        Check.due(b.told(0, 3, 0), -2);
        Check.due(b.cast(0, 3, p), 4);
        int[] slant = {1, 2, 0, 1};
        for (int line = 0; line < 4; line++) {
            Check.due(b.told(0, 3, line), slant[line]);
        }
        Check.due(b.cast(0, 0, 0), 0);
        Check.due(b.told(0, 0, 0), 0);
        Check.due(b.told(0, 1, 0), 2);
        Check.due(b.cast(0, 0, 63), 6);
        Check.due(b.cast(0, 0, 64), -1);
        Check.due(b.cast(0, 0, -1), -1);
        Check.due(b.cast(0, 0, Long.MIN_VALUE), -1);
        Check.due(b.cast(0, 4, 1), -1);
        Check.due(b.cast(0, -1, 1), -1);
        Check.due(b.cast(1, 0, 1), -1);
        Check.due(b.told(0, 0, 0), 3);
        ShadowBench great = with(0, 6, 6);
        Check.due(great.cast(0, 1, (1L << 36) - 1), 36);
        Check.due(great.cast(0, 1, 1L << 36), -1);
        Check.due(great.told(0, 1, 5), 6);
    }

    private static void p5() {
        ShadowBench b = with(0, 3, 3);
        Check.due(b.untell(0, 2), 0);
        Check.due(b.cast(0, 2, 273), 3);
        Check.due(b.cast(0, 3, 273), 3);
        Check.due(b.untell(0, 2), 1);
        Check.due(b.untell(0, 2), 0);
        Check.due(b.told(0, 2, 2), -2);
        Check.due(b.told(0, 3, 2), 1);
        Check.due(b.sum(0, 2, 0, 1), 0);
        Check.due(b.told(0, 2, 0), 1);
        Check.due(b.told(0, 2, 2), 0);
        Check.due(b.untell(0, 3), 1);
        b.cast(0, 3, 511);
        b.untell(0, 3);
        b.sum(0, 3, 2, 4);
        int[] anew = {0, 0, 4, 0, 0};
        for (int line = 0; line < 5; line++) {
            Check.due(b.told(0, 3, line), anew[line]);
        }
        Check.due(b.untell(0, 0), -1);
        Check.due(b.untell(0, 1), -1);
        Check.due(b.untell(0, 4), -1);
        Check.due(b.untell(0, -1), -1);
        Check.due(b.untell(1, 2), -1);
        Check.due(b.untell(-1, 2), -1);
        Check.due(b.told(0, 0, 0), 0);
    }

    private static void p6() {
        ShadowBench b = with(0, 3, 2);
        Check.due(b.hold(0, 5, 1), 2);
        Check.due(b.hold(0, 5, 0), 1);
        Check.due(b.hold(0, 5, 0), 0);
        Check.due(b.hold(0, 5, 2), 0);
        Check.due(b.hold(0, 5, 2), 2);
        Check.due(b.hold(0, 0, 1), 2);
        Check.due(b.hold(0, 0, 2), 1);
        for (int square : new int[] {6, -1, TOP, LOW}) {
            Check.due(b.hold(0, square, 1), -1);
        }
        for (int how : new int[] {3, -1, TOP, LOW}) {
            Check.due(b.hold(0, 0, how), -1);
        }
        Check.due(b.hold(1, 0, 1), -1);
        Check.due(b.hold(0, 0, 2), 2);
        ShadowBench great = with(0, 6, 6);
        Check.due(great.hold(0, 35, 1), 2);
        Check.due(great.hold(0, 35, 2), 1);
        Check.due(great.hold(0, 3, 2), 2);
    }

    private static void p7() {
        ShadowBench b = with(3, 3, 2);
        Check.due(b.mark(0, 0, 0), 0);
        Check.due(b.mark(0, 0, 99), 1);
        Check.due(b.mark(0, 0, 99), 0);
        Check.due(b.mark(0, 0, -99), 1);
        Check.due(b.mark(0, 5, -1), 1);
        Check.due(b.mark(0, 6, 1), -1);
        Check.due(b.mark(0, -1, 1), -1);
        Check.due(b.mark(0, 0, 100), -1);
        Check.due(b.mark(0, 0, -100), -1);
        Check.due(b.mark(1, 0, 1), -1);
        Check.due(b.mark(0, 0, -99), 0);
        for (int kind = 0; kind < 3; kind++) {
            ShadowBench other = with(kind, 3, 2);
            Check.due(other.mark(0, 0, 1), -4);
            Check.due(other.mark(0, 6, 1), -1);
            Check.due(other.mark(0, 0, 100), -1);
            Check.due(other.mark(1, 0, 1), -1);
        }
    }

    private static void p8() {
        ShadowBench b = with(0, 4, 2);
        int[] lines = {2, 4, 5, 5};
        for (int way = 0; way < 4; way++) {
            Check.due(b.told(0, way, -1), lines[way]);
            Check.due(b.told(0, way, lines[way] - 1), way < 2 ? 0 : -2);
            Check.due(b.told(0, way, lines[way]), -1);
            Check.due(b.told(0, way, -2), -1);
            Check.due(b.told(0, way, LOW), -1);
            Check.due(b.told(1, way, 0), -1);
        }
        Check.due(b.told(0, 4, -1), -1);
        Check.due(b.told(0, -1, 0), -1);
        Check.due(b.told(1, 0, -1), -1);
        b.sum(0, 3, 4, 5);
        Check.due(b.told(0, 3, -1), 5);
        Check.due(b.told(0, 3, 4), 5);
        Check.due(b.told(0, 3, 3), 0);
    }

    private static void p9() {
        ShadowBench b = new ShadowBench();
        long p = pic("##.#", "#...", ".###");
        int[][] due = {{3, 1, 3}, {2, 2, 1, 2}, {0, 2, 2, 2, 0, 1}, {1, 2, 0, 2, 1, 1}};
        for (int way = 0; way < 4; way++) {
            for (int line = 0; line < due[way].length; line++) {
                Check.due(b.shadow(4, 3, p, way, line), due[way][line]);
            }
            Check.due(b.shadow(4, 3, p, way, due[way].length), -1);
            Check.due(b.shadow(4, 3, p, way, -1), -1);
        }
        long full = (1L << 36) - 1;
        Check.due(b.shadow(6, 6, full, 2, 5), 6);
        Check.due(b.shadow(6, 6, full, 2, 0), 1);
        Check.due(b.shadow(6, 6, full, 3, 10), 1);
        Check.due(b.shadow(6, 6, 1L << 35, 3, 10), 1);
        Check.due(b.shadow(1, 1, 1, 2, 0), 1);
        Check.due(b.shadow(6, 6, full + 1, 0, 0), -1);
        Check.due(b.shadow(4, 3, 1L << 12, 0, 0), -1);
        Check.due(b.shadow(4, 3, -1, 0, 0), -1);
        Check.due(b.shadow(0, 3, 0, 0, 0), -1);
        Check.due(b.shadow(4, 7, 0, 0, 0), -1);
        Check.due(b.shadow(4, 3, p, 4, 0), -1);
        Check.due(b.shadow(4, 3, p, -1, 0), -1);
    }

    private static void p10() {
        ShadowBench b = with(0, 3, 3);
        Check.due(b.fits(0, 0), 1);
        Check.due(b.fits(0, 1), 0);
        b = toldBy(0, 3, 3, 273);
        Check.due(b.fits(0, 273), 1);
        Check.due(b.fits(0, 84), 1);
        Check.due(b.fits(0, pic("##.", "...", "..#")), 0);
        Check.due(b.fits(0, pic("#..", "#..", "..#")), 0);
        b.hold(0, 4, 0);
        Check.due(b.fits(0, 84), 0);
        Check.due(b.fits(0, 140), 1);
        b.hold(0, 4, 2);
        b.hold(0, 1, 1);
        Check.due(b.fits(0, 84), 0);
        Check.due(b.fits(0, 98), 1);
        b.hold(0, 1, 2);
        b.cast(0, 2, 273);
        Check.due(b.fits(0, 84), 0);
        Check.due(b.fits(0, 273), 1);
        b.untell(0, 2);
        b.cast(0, 3, 273);
        Check.due(b.fits(0, 84), 0);
        Check.due(b.fits(0, 273), 1);
        Check.due(b.fits(0, 512), -1);
        Check.due(b.fits(0, -1), -1);
        Check.due(b.fits(1, 0), -1);
        for (int kind = 0; kind < 4; kind++) {
            Check.due(toldBy(kind, 3, 3, 273).fits(0, 273), kind % 3 == 0 ? 1 : 0);
            Check.due(toldBy(kind, 3, 3, 1).fits(0, 1), 1);
            Check.due(toldBy(kind, 3, 3, 0).fits(0, 0), 1);
            long ring = pic("###", "#.#", "###");
            Check.due(toldBy(kind, 3, 3, ring).fits(0, ring), kind == 2 ? 0 : 1);
            long rowGap = pic("###", "#.#");
            Check.due(toldBy(kind, 3, 2, rowGap).fits(0, rowGap), kind == 2 ? 0 : 1);
            long columnGap = pic("##", "#.", "##");
            Check.due(toldBy(kind, 2, 3, columnGap).fits(0, columnGap), kind == 2 ? 0 : 1);
            long apart = pic("#..", "#..", "..#");
            Check.due(toldBy(kind, 3, 3, apart).fits(0, apart), kind % 3 == 0 ? 1 : 0);
        }
    }

    private static void p11() {
        Check.due(with(0, 6, 6).count(0), 1);
        Check.due(toldBy(0, 3, 3, 273).count(0), 6);
        Check.due(toldBy(3, 4, 4, 33825).count(0), 24);
        Check.due(toldBy(0, 4, 4, pic("##..", "##..", "..##", "..##")).count(0), 90);
        Check.due(toldBy(1, 3, 3, 273).count(0), 0);
        // Of two rows of two ones in three columns, those with column sums 2 1 1 are two.
        Check.due(toldBy(0, 3, 2, pic("##.", "#.#")).count(0), 2);
        long frame = pic("###", "#.#", "###");
        Check.due(toldBy(0, 3, 3, frame).count(0), 1);
        Check.due(toldBy(2, 3, 3, frame).count(0), 0);
        ShadowBench b = toldBy(0, 3, 3, 273);
        b.hold(0, 0, 0);
        Check.due(b.count(0), 4);
        b.hold(0, 0, 1);
        Check.due(b.count(0), 2);
        b.cast(0, 3, 273);
        Check.due(b.count(0), 1);
        b.sum(0, 0, 0, 0);
        Check.due(b.count(0), 0);
        Check.due(b.count(1), -1);
        Check.due(b.count(-1), -1);
        Check.due(toldBy(0, 6, 6, 1L << 35).count(0), 1);
        ShadowBench tooMany = with(0, 2, 2);
        tooMany.sum(0, 0, 0, 6);
        tooMany.sum(0, 1, 0, 6);
        Check.due(tooMany.count(0), 0);
        Check.due(toldBy(0, 6, 6, 25445518L).count(0), -5);
    }

    private static void p12() {
        ShadowBench b = toldBy(0, 3, 3, 273);
        long[] due = {273, 161, 266, 98, 140, 84};
        for (int i = 0; i < due.length; i++) {
            Check.due(b.find(0, i), due[i]);
        }
        Check.due(b.find(0, 6), -2);
        Check.due(b.find(0, TOP), -2);
        Check.due(b.find(0, -1), -1);
        Check.due(b.find(0, LOW), -1);
        Check.due(b.find(1, 0), -1);
        b.hold(0, 4, 1);
        Check.due(b.find(0, 1), 84);
        Check.due(b.find(0, 2), -2);
        long corner = 1L << 35;
        Check.due(toldBy(0, 6, 6, corner).find(0, 0), corner);
        Check.due(with(0, 2, 2).find(0, 0), 0);
        Check.due(toldBy(1, 3, 3, 273).find(0, 0), -2);
        Check.due(toldBy(0, 6, 6, 25445518L).find(0, 100000), -5);
    }

    private static void p13() {
        ShadowBench b = toldBy(0, 3, 3, 273);
        long[] due = {273, 161, 266, 98, 140, 84};
        for (int i = 0; i < due.length; i++) {
            Check.due(b.rank(0, due[i]), i);
        }
        Check.due(b.rank(0, 7), -2);
        Check.due(b.rank(0, 0), -2);
        Check.due(b.rank(0, 512), -1);
        Check.due(b.rank(0, -1), -1);
        Check.due(b.rank(1, 273), -1);
        b.hold(0, 4, 1);
        Check.due(b.rank(0, 84), 1);
        Check.due(b.rank(0, 140), -2);
        ShadowBench great = toldBy(0, 6, 6, 25445518L);
        Check.due(great.rank(0, 0), -2);
        Check.due(great.rank(0, great.find(0, 12)), 12);
        Check.due(toldBy(0, 6, 5, 815239970L).rank(0, 808377380L), -5);
    }

    private static void p14() {
        ShadowBench b = toldBy(0, 3, 3, 273);
        for (int square = 0; square < 9; square++) {
            Check.due(b.sure(0, square), 2);
        }
        b.hold(0, 4, 1);
        int[] due = {2, 0, 2, 0, 1, 0, 2, 0, 2};
        for (int square = 0; square < 9; square++) {
            Check.due(b.sure(0, square), due[square]);
        }
        Check.due(b.sure(0, 9), -1);
        Check.due(b.sure(0, -1), -1);
        Check.due(b.sure(1, 0), -1);
        b.hold(0, 0, 1);
        b.hold(0, 1, 1);
        Check.due(b.sure(0, 0), -2);
        Check.due(b.sure(0, 9), -1);
        ShadowBench full = toldBy(0, 6, 6, (1L << 36) - 1);
        Check.due(full.sure(0, 35), 1);
        Check.due(with(0, 6, 6).sure(0, 35), 0);
        Check.due(toldBy(0, 6, 6, 25445518L).sure(0, 0), -5);
    }

    private static void p15() {
        ShadowBench b = toldBy(0, 3, 3, 273);
        Check.due(b.clash(0), -2);
        Check.due(b.clash(1), -1);
        Check.due(b.clash(-1), -1);
        b.sum(0, 0, 0, 2);
        Check.due(b.clash(0), 0);
        // A column of two in a picture with one row that has any.
        b = with(0, 3, 2);
        b.sum(0, 0, 0, 2);
        b.sum(0, 1, 2, 2);
        Check.due(b.clash(0), 1);
        // Each column alone has room, but not both of 2: rows 2 1 0, columns 0 2 1 are fine ..
        b = with(0, 3, 3);
        b.sum(0, 0, 0, 2);
        b.sum(0, 0, 1, 1);
        b.sum(0, 1, 1, 2);
        b.sum(0, 1, 2, 1);
        Check.due(b.clash(0), -2);
        // .. and rows 3 1 0, columns 0 2 2 are not.
        b.sum(0, 0, 0, 3);
        b.sum(0, 1, 2, 2);
        Check.due(b.clash(0), 2);
        b.hold(0, 0, 1);
        b.sum(0, 2, 0, 1);
        Check.due(b.clash(0), 2);
        // A row of four in three columns: seen by all columns alone.
        b = with(1, 3, 2);
        b.sum(0, 0, 0, 4);
        b.sum(0, 0, 1, 2);
        for (int x = 0; x < 3; x++) {
            b.sum(0, 1, x, 2);
        }
        Check.due(b.clash(0), 3);
        Check.due(with(2, 6, 6).clash(0), -2);
        Check.due(toldBy(2, 3, 3, 273).clash(0), -2);
    }

    private static ShadowBench marked() {
        ShadowBench b = toldBy(3, 3, 3, 273);
        b.mark(0, 0, 5);
        b.mark(0, 5, 9);
        b.mark(0, 7, 9);
        return b;
    }

    private static void p16() {
        ShadowBench b = marked();
        Check.due(b.best(0), 23);
        b.hold(0, 0, 0);
        Check.due(b.best(0), 9);
        for (int square = 0; square < 9; square++) {
            b.mark(0, square, -10 - square);
        }
        Check.due(b.best(0), -42);
        b.hold(0, 1, 0);
        b.hold(0, 2, 0);
        Check.thrown(IllegalStateException.class, () -> b.best(0));
        Check.thrown(IllegalArgumentException.class, () -> b.best(1));
        Check.thrown(IllegalArgumentException.class, () -> b.best(-1));
        for (int kind = 0; kind < 3; kind++) {
            ShadowBench other = with(kind, 3, 3);
            Check.thrown(IllegalArgumentException.class, () -> other.best(0));
        }
        Check.due(with(3, 2, 2).best(0), 0);
        ShadowBench spent = toldBy(3, 6, 6, 25445518L);
        Check.thrown(IllegalStateException.class, () -> spent.best(0));
        ShadowBench full = toldBy(3, 6, 6, (1L << 36) - 1);
        for (int square = 0; square < 36; square++) {
            full.mark(0, square, 99);
        }
        Check.due(full.best(0), 3564);
    }

    private static void p17() {
        ShadowBench b = marked();
        Check.due(b.bestOne(0), 161);
        b.mark(0, 0, 0);
        b.mark(0, 5, 0);
        b.mark(0, 7, 0);
        Check.due(b.bestOne(0), 273);
        b.mark(0, 4, -1);
        Check.due(b.bestOne(0), 161);
        b.mark(0, 4, 0);
        // 266 and 84 have these, with 4 each; the first one counts.
        b.mark(0, 1, 4);
        b.mark(0, 2, 2);
        b.mark(0, 4, 2);
        Check.due(b.bestOne(0), 266);
        Check.due(b.best(0), 4);
        b.sum(0, 0, 0, 0);
        Check.thrown(IllegalStateException.class, () -> b.bestOne(0));
        Check.thrown(IllegalArgumentException.class, () -> b.bestOne(1));
        Check.thrown(IllegalArgumentException.class, () -> b.bestOne(LOW));
        for (int kind = 0; kind < 3; kind++) {
            ShadowBench other = with(kind, 3, 3);
            Check.thrown(IllegalArgumentException.class, () -> other.bestOne(0));
        }
        ShadowBench spent = toldBy(3, 6, 6, 25445518L);
        Check.thrown(IllegalStateException.class, () -> spent.bestOne(0));
    }

    private static void p18() {
        ShadowBench b = new ShadowBench();
        Check.due(b.switches(3, 3, 273), 3);
        Check.due(b.switches(2, 2, pic("#.", ".#")), 1);
        Check.due(b.switches(2, 2, pic(".#", "#.")), 1);
        Check.due(b.switches(2, 2, pic("##", "..")), 0);
        Check.due(b.switches(2, 2, pic("#.", "#.")), 0);
        Check.due(b.switches(2, 2, pic("#.", "##")), 0);
        Check.due(b.switches(1, 6, 21), 0);
        Check.due(b.switches(6, 1, 21), 0);
        Check.due(b.switches(1, 1, 1), 0);
        Check.due(b.switches(6, 2, pic("###...", "...###")), 9);
        Check.due(b.switches(6, 6, 1L << 35 | 1L << 28), 1);
        Check.due(b.switches(3, 3, 512), -1);
        Check.due(b.switches(3, 3, -1), -1);
        Check.due(b.switches(0, 3, 0), -1);
        Check.due(b.switches(3, 7, 0), -1);
        Check.due(b.switches(7, 3, 0), -1);
    }

    private static void p19() {
        ShadowBench b = new ShadowBench();
        // Rows 0 1, rows 0 2, rows 1 2.
        Check.due(b.switched(3, 3, 273, 0), pic(".#.", "#..", "..#"));
        Check.due(b.switched(3, 3, 273, 1), pic("..#", ".#.", "#.."));
        Check.due(b.switched(3, 3, 273, 2), pic("#..", "..#", ".#."));
        Check.due(b.switched(3, 3, 273, 3), -2);
        Check.due(b.switched(3, 3, 273, TOP), -2);
        Check.due(b.switched(3, 3, 273, -1), -1);
        long two = pic("##..", "..##");
        Check.due(b.switched(4, 2, two, 0), pic(".##.", "#..#"));
        Check.due(b.switched(4, 2, two, 1), pic(".#.#", "#.#."));
        Check.due(b.switched(4, 2, two, 2), pic("#.#.", ".#.#"));
        Check.due(b.switched(4, 2, two, 3), pic("#..#", ".##."));
        Check.due(b.switched(4, 2, two, 4), -2);
        Check.due(b.switched(3, 3, 512, 0), -1);
        Check.due(b.switched(3, 3, -1, 0), -1);
        Check.due(b.switched(3, 0, 0, 0), -1);
        Check.due(b.switched(7, 3, 0, 0), -1);
        Check.due(b.switched(3, 3, 0, 0), -2);
    }

    private static void p20() {
        ShadowBench b = new ShadowBench();
        Check.due(b.far(3, 3, 273, 84), 1);
        Check.due(b.far(3, 3, 273, 140), 2);
        Check.due(b.far(3, 3, 273, 273), 0);
        Check.due(b.far(6, 6, 0, 0), 0);
        Check.due(b.far(3, 3, 273, 7), -2);
        Check.due(b.far(3, 3, pic("#..", "...", "..."), pic(".#.", "...", "...")), -2);
        Check.due(b.far(3, 3, pic("#..", "...", "..."), pic("...", "#..", "...")), -2);
        Check.due(b.far(3, 3, 512, 512), -1);
        Check.due(b.far(3, 3, 0, 512), -1);
        Check.due(b.far(3, 3, -1, 0), -1);
        Check.due(b.far(0, 3, 0, 0), -1);
        Check.due(b.far(3, 7, 0, 0), -1);
        // One cycle of six takes five switches.
        long straight = 0;
        long cycle = 0;
        for (int y = 0; y < 6; y++) {
            straight |= 1L << (7 * y);
            cycle |= 1L << (6 * y + (y + 1) % 6);
        }
        Check.due(b.far(6, 6, straight, cycle), 5);
        Check.due(b.far(6, 6, cycle, straight), 5);
        long halves = pic("###...", "###...", "###...", "...###", "...###", "...###");
        long other = b.turned(6, 6, halves, 3);
        Check.due(b.far(6, 6, halves, other), -5);
        Check.due(b.far(3, 3, 273, 140), 2);
    }

    private static void p21() {
        ShadowBench b = new ShadowBench();
        Check.due(b.joined(3, 3, 0), 1);
        for (int square = 0; square < 9; square++) {
            Check.due(b.joined(3, 3, 1L << square), 1);
        }
        Check.due(b.joined(3, 3, pic("##.", "...", "...")), 1);
        Check.due(b.joined(3, 3, pic("#..", "#..", "...")), 1);
        Check.due(b.joined(3, 3, pic("#..", ".#.", "...")), 0);
        Check.due(b.joined(3, 3, pic(".#.", "#..", "...")), 0);
        // The end of a row is not beside the next one's beginning.
        Check.due(b.joined(3, 3, pic("..#", "#..", "...")), 0);
        Check.due(b.joined(3, 3, pic("#.#", "#.#", "###")), 1);
        Check.due(b.joined(6, 6, (1L << 36) - 1), 1);
        long snake = pic("######", ".....#", "######", "#.....", "######", ".....#");
        Check.due(b.joined(6, 6, snake), 1);
        Check.due(b.joined(6, 6, snake & ~(1L << 11)), 0);
        Check.due(b.joined(1, 6, 63), 1);
        Check.due(b.joined(1, 6, 5), 0);
        Check.due(b.joined(3, 3, 512), -1);
        Check.due(b.joined(3, 3, -1), -1);
        Check.due(b.joined(0, 3, 0), -1);
        Check.due(b.joined(3, 7, 0), -1);
    }

    private static void p22() {
        ShadowBench b = new ShadowBench();
        long rowGap = pic("#.#", "###", "...");
        Check.due(b.even(3, 3, rowGap, false), 0);
        Check.due(b.even(3, 3, rowGap, true), 1);
        long columnGap = pic("##.", "#..", "##.");
        Check.due(b.even(3, 3, columnGap, false), 1);
        Check.due(b.even(3, 3, columnGap, true), 0);
        Check.due(b.even(3, 3, 0, false), 1);
        Check.due(b.even(3, 3, 0, true), 1);
        Check.due(b.even(3, 3, 273, false), 1);
        Check.due(b.even(3, 3, 273, true), 1);
        Check.due(b.even(6, 6, (1L << 36) - 1, true), 1);
        Check.due(b.even(6, 6, 1L << 30 | 1L << 35, false), 0);
        Check.due(b.even(6, 6, 1L << 5 | 1L << 35, true), 0);
        Check.due(b.even(6, 1, pic(".####."), false), 1);
        Check.due(b.even(6, 1, pic("#.####"), false), 0);
        Check.due(b.even(3, 3, 512, false), -1);
        Check.due(b.even(3, 3, -1, true), -1);
        Check.due(b.even(0, 3, 0, false), -1);
        Check.due(b.even(3, 7, 0, true), -1);
    }

    private static void p23() {
        ShadowBench b = new ShadowBench();
        long p = pic("##.", "#..");
        Check.due(b.turned(3, 2, p, 0), pic("##", ".#", ".."));
        Check.due(b.turned(3, 2, p, 1), pic("#..", "##."));
        Check.due(b.turned(3, 2, p, 2), pic("##", "#.", ".."));
        Check.due(b.turned(3, 2, p, 3), pic("..#", ".##"));
        long q = pic("##.#", "#...", "..#.");
        Check.due(b.turned(4, 3, q, 0), pic(".##", "..#", "#..", "..#"));
        Check.due(b.turned(4, 3, q, 1), pic("..#.", "#...", "##.#"));
        Check.due(b.turned(4, 3, q, 2), pic("##.", "#..", "..#", "#.."));
        Check.due(b.turned(4, 3, q, 3), pic("..#.", ".###", "##.#"));
        Check.due(b.turned(6, 6, 0, 3), (1L << 36) - 1);
        Check.due(b.turned(6, 6, (1L << 36) - 1, 3), 0);
        Check.due(b.turned(6, 6, 1L << 35, 0), 1L << 30);
        Check.due(b.turned(3, 2, p, 4), -1);
        Check.due(b.turned(3, 2, p, -1), -1);
        Check.due(b.turned(3, 2, 64, 0), -1);
        Check.due(b.turned(3, 2, -1, 3), -1);
        Check.due(b.turned(0, 2, 0, 0), -1);
        Check.due(b.turned(3, 7, 0, 0), -1);
    }

    private static void p24() {
        ShadowBench b = new ShadowBench();
        Check.due(b.parts(3, 3, 273, 84, 15), 2);
        Check.due(b.parts(3, 3, 273, 84, 3), -2);
        Check.due(b.parts(3, 3, 273, 84, 8), 3);
        Check.due(b.parts(3, 3, 273, 84, 12), 2);
        Check.due(b.parts(3, 3, 273, 84, 0), -2);
        Check.due(b.parts(3, 3, 273, 273, 15), -2);
        Check.due(b.parts(2, 2, 1, 2, 15), 1);
        Check.due(b.parts(2, 2, 1, 2, 1), -2);
        Check.due(b.parts(2, 2, 1, 4, 15), 0);
        Check.due(b.parts(2, 2, 1, 4, 14), 2);
        Check.due(b.parts(2, 2, 1, 8, 4), -2);
        Check.due(b.parts(2, 2, 2, 4, 8), -2);
        Check.due(b.parts(2, 2, 2, 4, 4), 2);
        Check.due(b.parts(3, 3, 273, 84, 16), -1);
        Check.due(b.parts(3, 3, 273, 84, -1), -1);
        Check.due(b.parts(3, 3, 512, 84, 15), -1);
        Check.due(b.parts(3, 3, 273, 512, 15), -1);
        Check.due(b.parts(3, 3, 273, -1, 15), -1);
        Check.due(b.parts(0, 3, 0, 0, 15), -1);
        Check.due(b.parts(3, 7, 0, 0, 15), -1);
    }

    private static void p25() {
        ShadowBench b = new ShadowBench();
        Check.due(b.list(3, 2, 64), -1);
        Check.due(b.list(3, 2, -1), -1);
        Check.due(b.list(0, 2, 0), -1);
        Check.due(b.list(3, 7, 0), -1);
        Check.due(b.list(3, 2, 0), 1);
        Check.due(b.list(3, 2, 0), -3);
        Check.due(b.list(2, 3, 1), -3);
        Check.due(b.list(3, 3, 1), -3);
        Check.due(b.list(2, 2, 1), -3);
        Check.due(b.list(2, 3, 64), -1);
        for (int i = 1; i < 12; i++) {
            Check.due(b.list(3, 2, i), i + 1);
        }
        Check.due(b.list(3, 2, 12), -2);
        Check.due(b.list(3, 2, 0), -2);
        Check.due(b.list(2, 3, 0), -2);
        Check.due(b.list(3, 2, 64), -1);
        Check.due(b.clear(), 12);
        Check.due(b.list(2, 3, 0), 1);
    }

    private static void p26() {
        ShadowBench b = new ShadowBench();
        Check.due(b.clear(), 0);
        b.list(3, 3, 1);
        b.list(3, 3, 2);
        Check.due(b.clear(), 2);
        Check.due(b.clear(), 0);
        Check.due(b.ways(), 0);
        Check.due(b.list(2, 2, 1), 1);
        Check.due(b.list(3, 3, 1), -3);
        Check.due(b.clear(), 1);
    }

    private static int waysOf(int wide, int high, long... pictures) {
        ShadowBench b = new ShadowBench();
        for (long picture : pictures) {
            b.list(wide, high, picture);
        }
        return b.ways();
    }

    private static void p27() {
        Check.due(waysOf(3, 3), 0);
        Check.due(waysOf(3, 3, 5), 0);
        Check.due(waysOf(2, 2, 1, 2), 2);
        Check.due(waysOf(2, 2, 1, 4), 1);
        Check.due(waysOf(2, 2, 1, 8), 1);
        Check.due(waysOf(2, 2, 2, 4, 1), 4);
        Check.due(waysOf(2, 2, 1, 2, 4, 8), 3);
        Check.due(waysOf(3, 3, 273, 84, 140, 98), 4);
        // Either slanting way tells the two diagonals apart, rows and columns don't: the least set.
        Check.due(waysOf(2, 2, pic("#.", ".#"), pic(".#", "#.")), 4);
        Check.due(waysOf(3, 3, pic("#..", "...", "..#"), pic("..#", "...", "#..")), 4);
        // A ghost of all four ways, its ones and its minus ones.
        ShadowBench b = new ShadowBench();
        long plus = 0;
        long minus = 0;
        for (int y = 0; y < 4; y++) {
            for (int x = 0; x < 4; x++) {
                int v = b.ghost(15, x, y);
                plus |= v == 1 ? 1L << (4 * y + x) : 0L;
                minus |= v == -1 ? 1L << (4 * y + x) : 0L;
            }
        }
        Check.due(waysOf(4, 4, plus, minus), -2);
        Check.due(waysOf(4, 4, plus, minus, 0), -2);
        Check.due(waysOf(6, 6, 1L, 2L, 64L, 128L), 3);
        allWaysNeeded();
    }

    /** Pairs that a single way tells apart, each another one: no way can be spared. */
    private static void allWaysNeeded() {
        ShadowBench b = new ShadowBench();
        ShadowBench all = new ShadowBench();
        for (int spared = 0; spared < 4; spared++) {
            long plus = 0;
            long minus = 0;
            for (int y = 0; y < 6; y++) {
                for (int x = 0; x < 6; x++) {
                    int v = b.ghost(15 - (1 << spared), x, y);
                    plus |= v == 1 ? 1L << (6 * y + x) : 0L;
                    minus |= v == -1 ? 1L << (6 * y + x) : 0L;
                }
            }
            Check.due(waysOf(6, 6, plus, minus), 1 << spared);
            all.list(6, 6, plus);
            all.list(6, 6, minus);
        }
        Check.due(all.ways(), 15);
    }

    private static void p28() {
        ShadowBench b = new ShadowBench();
        int[][] three = {{1, -1, 0}, {-1, 1, 0}, {0, 0, 0}};
        int[][] five = {{1, -1, 0}, {0, -1, 1}, {0, 0, 0}};
        int[][] ten = {{0, -1, 0}, {1, 1, 0}, {-1, 0, 0}};
        int[][] twelve = {{0, -1, 0}, {1, 0, 1}, {0, -1, 0}};
        int[][] all = {{0, -1, 1, 0}, {1, 0, 0, -1}, {-1, 0, 0, 1}, {0, 1, -1, 0}};
        ghostIs(b, 3, three);
        ghostIs(b, 5, five);
        ghostIs(b, 10, ten);
        ghostIs(b, 12, twelve);
        ghostIs(b, 15, all);
        ghostIs(b, 1, new int[][] {{1, -1}, {0, 0}});
        ghostIs(b, 2, new int[][] {{1, 0}, {-1, 0}});
        ghostIs(b, 4, new int[][] {{1, 0}, {0, -1}});
        ghostIs(b, 8, new int[][] {{0, -1}, {1, 0}});
        Check.due(b.ghost(15, 8, 8), 0);
        for (int wrong : new int[] {0, 16, -1, LOW, TOP}) {
            Check.thrown(IllegalArgumentException.class, () -> b.ghost(wrong, 0, 0));
        }
        for (int wrong : new int[] {9, -1, LOW, TOP}) {
            Check.thrown(IllegalArgumentException.class, () -> b.ghost(1, wrong, 0));
            Check.thrown(IllegalArgumentException.class, () -> b.ghost(1, 0, wrong));
        }
    }

    private static void ghostIs(ShadowBench b, int ways, int[][] due) {
        for (int y = 0; y < 9; y++) {
            for (int x = 0; x < 9; x++) {
                int want = y < due.length && x < due[y].length ? due[y][x] : 0;
                Check.due(b.ghost(ways, x, y), want);
            }
        }
    }

    private static void p29() {
        ShadowBench b = new ShadowBench();
        Check.due(b.haunts(1, 2, 1), 1);
        Check.due(b.haunts(1, 1, 6), 0);
        Check.due(b.haunts(2, 1, 2), 1);
        Check.due(b.haunts(2, 6, 1), 0);
        Check.due(b.haunts(12, 3, 3), 1);
        Check.due(b.haunts(12, 3, 2), 0);
        Check.due(b.haunts(12, 2, 3), 0);
        Check.due(b.haunts(15, 4, 4), 1);
        Check.due(b.haunts(15, 6, 6), 1);
        Check.due(b.haunts(15, 3, 4), 0);
        Check.due(b.haunts(0, 3, 3), -1);
        Check.due(b.haunts(16, 3, 3), -1);
        Check.due(b.haunts(-1, 3, 3), -1);
        Check.due(b.haunts(1, 0, 3), -1);
        Check.due(b.haunts(1, 3, 7), -1);
        Check.due(b.haunts(1, LOW, 3), -1);
    }

    private static void p30() {
        ShadowBench b = new ShadowBench();
        Check.due(b.ghosts(1, 6, 6), 30);
        Check.due(b.ghosts(1, 2, 1), 1);
        Check.due(b.ghosts(1, 1, 6), 0);
        Check.due(b.ghosts(2, 5, 3), 10);
        Check.due(b.ghosts(4, 4, 5), 12);
        Check.due(b.ghosts(8, 4, 5), 12);
        Check.due(b.ghosts(7, 6, 5), 12);
        Check.due(b.ghosts(13, 6, 6), 12);
        Check.due(b.ghosts(14, 6, 6), 12);
        Check.due(b.ghosts(15, 1, 1), 0);
        Check.due(b.ghosts(15, 1, 6), 0);
        Check.due(b.ghosts(0, 3, 3), -1);
        Check.due(b.ghosts(16, 3, 3), -1);
        Check.due(b.ghosts(-1, 3, 3), -1);
        Check.due(b.ghosts(1, 7, 3), -1);
        Check.due(b.ghosts(1, 3, 0), -1);
    }

    private static void p31() {
        ShadowBench b = toldBy(0, 3, 2, pic("##.", "#.."));
        Check.due(b.keep(7, 1, 0, -1), 0);
        Check.due(b.weight(7), 16);
        Check.due(b.keep(7, 3, 0, pic(".#.", "..#")), 0);
        int[] squares = {0, 1, 0, 0, 0, 1};
        for (int i = 0; i < 6; i++) {
            Check.due(b.element(7, i), squares[i]);
        }
        Check.thrown(IllegalStateException.class, () -> b.element(7, 6));
        Check.due(b.keep(7, 4, 0, -1), 0);
        int[] sums = {2, 1, 2, 1, 0};
        for (int i = 0; i < 5; i++) {
            Check.due(b.element(7, i), sums[i]);
        }
        Check.thrown(IllegalStateException.class, () -> b.element(7, 5));
        b.sum(0, 0, 0, 6);
        Check.due(b.element(7, 0), 2);
        for (int d : new int[] {8, -1, LOW, TOP}) {
            Check.due(b.keep(d, 0, 0, 0), -1);
        }
        for (int what : new int[] {2, 5, -1, LOW, TOP}) {
            Check.due(b.keep(7, what, 0, 0), -1);
        }
        for (int job : new int[] {1, -1, 8, LOW, TOP}) {
            for (int what : new int[] {1, 3, 4}) {
                Check.due(b.keep(7, what, job, 0), -1);
            }
        }
        Check.due(b.keep(7, 3, 0, 64), -1);
        Check.due(b.keep(7, 3, 0, -1), -1);
        Check.due(b.element(7, 4), 0);
        Check.due(b.element(7, 0), 2);
        Check.due(b.keep(7, 0, 99, -1), 0);
        Check.due(b.toss(7), -11);
        keptJobStays();
    }

    private static void keptJobStays() {
        ShadowBench b = with(3, 2, 2);
        b.mark(0, 0, 7);
        b.keep(0, 1, 0, 0);
        b.mark(0, 0, 9);
        b.keep(1, 1, 0, 0);
        b.mark(0, 3, -20);
        Check.due(b.weight(0), 21);
        Check.due(b.weight(1), 23);
        b.keep(0, 1, 0, 0);
        Check.due(b.weight(0), 3);
        // What is told and held later leaves the job itself as it is.
        b.cast(0, 0, 9);
        b.cast(0, 1, 9);
        b.keep(0, 1, 0, 0);
        Check.due(b.count(0), 2);
    }

    private static void p32() {
        ShadowBench b = new ShadowBench();
        Check.due(b.make(0, 3, 60), 0);
        Check.due(b.element(0, 59), 0);
        Check.thrown(IllegalStateException.class, () -> b.element(0, 60));
        Check.due(b.make(0, 4, 2), 0);
        Check.due(b.layer(0, 0), -12);
        Check.due(b.element(0, 1), 0);
        Check.thrown(IllegalStateException.class, () -> b.element(0, 2));
        Check.due(b.make(0, 3, 61), -1);
        Check.due(b.make(0, 3, TOP), -1);
        Check.due(b.make(0, 3, -1), -14);
        Check.due(b.make(0, 4, LOW), -14);
        for (int what : new int[] {0, 1, 2, 5, -1}) {
            Check.due(b.make(0, what, 1), -1);
            Check.due(b.make(0, what, -1), -1);
        }
        Check.due(b.make(8, 3, 1), -1);
        Check.due(b.make(-1, 3, -1), -1);
        Check.due(b.element(0, 1), 0);
        Check.due(b.make(7, 3, 0), 0);
        Check.due(b.layer(7, 0), 0);
        Check.thrown(IllegalStateException.class, () -> b.element(7, 0));
    }

    private static void p33() {
        ShadowBench b = toldBy(0, 2, 2, 9);
        b.keep(0, 3, 0, 9);
        b.keep(1, 1, 0, 0);
        b.keep(2, 4, 0, 0);
        Check.due(b.element(0, 0), 1);
        Check.due(b.element(0, 1), 0);
        Check.due(b.element(0, 3), 1);
        Check.due(b.element(2, 3), 1);
        for (int i : new int[] {4, -1, LOW, TOP}) {
            Check.thrown(IllegalStateException.class, () -> b.element(0, i));
            Check.thrown(IllegalStateException.class, () -> b.element(2, i));
        }
        Check.thrown(IllegalStateException.class, () -> b.element(1, 0));
        Check.thrown(IllegalStateException.class, () -> b.element(3, 0));
        for (int d : new int[] {8, -1, LOW, TOP}) {
            Check.thrown(IllegalArgumentException.class, () -> b.element(d, 0));
        }
    }

    private static long rowOf(ShadowBench b, int d, int n) {
        long all = 0;
        for (int i = 0; i < n; i++) {
            all = all * 10 + b.element(d, i);
        }
        return all;
    }

    private static void p34() {
        ShadowBench b = toldBy(0, 3, 2, pic("##.", "###"));
        b.keep(0, 3, 0, pic("##.", ".#."));
        b.keep(1, 1, 0, 0);
        b.keep(2, 4, 0, 0);
        b.make(3, 3, 4);
        b.make(4, 4, 5);
        Check.due(b.copy(0, 1, 3, 0, 4), 4);
        Check.due(rowOf(b, 3, 4), 1001);
        Check.due(rowOf(b, 0, 6), 110010);
        Check.due(b.copy(2, 0, 4, 0, 5), 5);
        Check.due(rowOf(b, 4, 5), 23221);
        // On one shelf, forth and back: as they all were before.
        Check.due(b.copy(4, 0, 4, 1, 4), 4);
        Check.due(rowOf(b, 4, 5), 22322);
        Check.due(b.copy(2, 0, 4, 0, 5), 5);
        Check.due(b.copy(4, 1, 4, 0, 4), 4);
        Check.due(rowOf(b, 4, 5), 32211);
        Check.due(b.copy(0, 6, 3, 4, 0), 0);
        Check.due(b.copy(0, 7, 3, 0, 0), -13);
        Check.due(b.copy(0, 0, 3, 5, 0), -13);
        Check.due(b.copy(0, 0, 3, 0, 5), -13);
        Check.due(b.copy(0, 3, 3, 0, 4), -13);
        Check.due(b.copy(0, 0, 3, 1, 4), -13);
        Check.due(b.copy(0, 0, 3, 0, -1), -13);
        Check.due(b.copy(0, -1, 3, 0, 1), -13);
        Check.due(b.copy(0, 0, 3, -1, 1), -13);
        Check.due(b.copy(0, TOP, 3, 0, TOP), -13);
        Check.due(b.copy(0, 1, 3, 1, TOP), -13);
        Check.due(rowOf(b, 3, 4), 1001);
        Check.due(b.copy(0, 0, 4, 0, 1), -12);
        Check.due(b.copy(4, 0, 0, 0, -1), -12);
        Check.due(b.copy(1, 0, 0, 0, 1), -12);
        Check.due(b.copy(0, 0, 1, 0, 1), -12);
        Check.due(b.copy(1, 0, 1, 0, 1), -12);
        Check.due(b.copy(5, 0, 0, 0, 1), -11);
        Check.due(b.copy(0, 0, 5, 0, 1), -11);
        Check.due(b.copy(1, 0, 5, 0, -1), -11);
        Check.due(b.copy(8, 0, 5, 0, 1), -1);
        Check.due(b.copy(5, 0, 8, 0, 1), -1);
        Check.due(b.copy(-1, 0, 0, 0, 1), -1);
        Check.due(b.copy(0, 0, LOW, 0, 1), -1);
    }

    private static void p35() {
        ShadowBench b = with(0, 6, 6);
        long p = 1L << 35 | 5L;
        b.keep(0, 3, 0, p);
        Check.due(b.layer(0, 0), p);
        for (int k = 1; k < 9; k++) {
            Check.due(b.layer(0, k), 0);
        }
        Check.due(b.layer(0, 9), -1);
        Check.due(b.layer(0, -1), -1);
        Check.due(b.layer(8, 0), -1);
        Check.due(b.layer(-1, 0), -1);
        Check.due(b.layer(1, 0), -11);
        Check.due(b.layer(1, 9), -1);
        b.keep(1, 1, 0, 0);
        Check.due(b.layer(1, 0), -12);
        b.keep(1, 4, 0, 0);
        Check.due(b.layer(1, 0), -12);
        b.make(1, 4, 40);
        Check.due(b.layer(1, 0), -12);
        b.make(1, 3, 36);
        Check.due(b.layer(1, 0), 0);
        b.make(1, 3, 37);
        Check.due(b.layer(1, 0), -13);
        b.make(1, 3, 60);
        Check.due(b.layer(1, 0), -13);
        b.make(1, 3, 3);
        b.copy(0, 2, 1, 2, 1);
        Check.due(b.layer(1, 0), 4);
    }

    private static void p36() {
        int[] due = {16, 116, 232, 16};
        ShadowBench b = new ShadowBench();
        for (int kind = 0; kind < 4; kind++) {
            b.job(kind, 3, 2);
            b.keep(kind, 1, kind, 0);
            Check.due(b.weight(kind), due[kind]);
        }
        b.mark(3, 0, 50);
        b.mark(3, 5, -99);
        b.keep(3, 1, 3, 0);
        Check.due(b.weight(3), -33);
        b.job(2, 6, 6);
        b.keep(2, 1, 4, 0);
        Check.due(b.weight(2), 292);
        b.make(4, 3, 1);
        Check.thrown(IllegalStateException.class, () -> b.weight(4));
        Check.thrown(IllegalStateException.class, () -> b.weight(5));
        for (int d : new int[] {8, -1, LOW, TOP}) {
            Check.thrown(IllegalArgumentException.class, () -> b.weight(d));
        }
    }

    private static void p37() {
        int[] due = {-15, 1, 2, 3};
        ShadowBench b = new ShadowBench();
        for (int kind = 0; kind < 4; kind++) {
            b.job(kind, 3, 2);
            b.keep(kind, 1, kind, 0);
            Check.due(b.toss(kind), due[kind]);
            Check.due(b.toss(kind), due[kind]);
        }
        b.make(4, 3, 1);
        b.make(5, 4, 1);
        Check.due(b.toss(4), -12);
        Check.due(b.toss(5), -12);
        Check.due(b.toss(6), -11);
        for (int d : new int[] {8, -1, LOW, TOP}) {
            Check.due(b.toss(d), -1);
        }
    }
}
