import java.util.List;

/** The edges of searches: 200000 rows that may be tried, 20000 pictures that may be met. */
public final class LimitsTest {
    private LimitsTest() {
    }

    public static void main(String[] args) {
        allRowsAreTried();
        oneRowMoreIsSpent();
        theLastRowFinds();
        theRowBehindTheLastIsSpent();
        heldSquaresSpareRows();
        slantsAndKindsSpareNone();
        spentIsOverWithTheCall();
        meetings();
        Check.end();
    }

    private static ShadowBench benchOf(int kind, int wide, int high, long picture) {
        ShadowBench bench = new ShadowBench();
        bench.job(kind, wide, high);
        bench.cast(0, 0, picture);
        bench.cast(0, 1, picture);
        return bench;
    }

    /** Here 200000 rows are tried, and then there is no other. */
    private static void allRowsAreTried() {
        ShadowBench bench = benchOf(3, 6, 6, 59705914783L);
        Check.due(bench.count(0), 64);
        Check.isTrue("picture 63 is there", bench.find(0, 63) > 0);
        Check.due(bench.find(0, 64), -2);
        Check.due(bench.rank(0, bench.find(0, 63)), 63);
        Check.isTrue("square 0 is told", bench.sure(0, 0) >= 0);
        Check.due(bench.best(0), 0);
        Check.due(bench.bestOne(0), bench.find(0, 0));
    }

    /** Here 200064 would be. */
    private static void oneRowMoreIsSpent() {
        ShadowBench bench = benchOf(3, 6, 6, 25445518L);
        Check.due(bench.count(0), -5);
        Check.due(bench.find(0, 1203), -5);
        Check.due(bench.find(0, Integer.MAX_VALUE), -5);
        Check.isTrue("picture 0 is there", bench.find(0, 0) > 0);
        Check.due(bench.rank(0, bench.find(0, 7)), 7);
        for (int square = 0; square < 36; square++) {
            Check.due(bench.sure(0, square), -5);
        }
        Check.thrown(IllegalStateException.class, () -> bench.best(0));
        Check.thrown(IllegalStateException.class, () -> bench.bestOne(0));
        Check.due(bench.rank(0, 1L), -2);
        // Pictures on narrower boards are told by lesser numbers of rows each.
        Check.due(benchOf(0, 5, 6, 948694467L).count(0), -5);
    }

    private static void theLastRowFinds() {
        ShadowBench bench = benchOf(0, 6, 5, 1016708425L);
        Check.due(bench.find(0, 750), 760204933L);
        Check.due(bench.rank(0, 760204933L), 750);
        Check.due(bench.find(0, 751), -5);
        Check.due(bench.count(0), -5);
        bench = benchOf(0, 6, 6, 30526136484L);
        Check.due(bench.find(0, 1039), 47756212242L);
        Check.due(bench.rank(0, 47756212242L), 1039);
    }

    private static void theRowBehindTheLastIsSpent() {
        ShadowBench bench = benchOf(0, 6, 5, 815239970L);
        Check.due(bench.find(0, 1298), -5);
        Check.due(bench.rank(0, 808377380L), -5);
        Check.due(bench.rank(0, bench.find(0, 1297)), 1297);
        bench = benchOf(0, 5, 6, 1019917173L);
        Check.due(bench.find(0, 501), -5);
        Check.due(bench.rank(0, 1016993749L), -5);
    }

    private static void heldSquaresSpareRows() {
        ShadowBench bench = benchOf(0, 6, 6, 25445518L);
        for (int square = 0; square < 6; square++) {
            bench.hold(0, square, (int) (25445518L >> square & 1));
        }
        ModelBench model = new ModelBench();
        model.job(0, 6, 6);
        model.cast(0, 0, 25445518L);
        model.cast(0, 1, 25445518L);
        for (int square = 0; square < 6; square++) {
            model.hold(0, square, (int) (25445518L >> square & 1));
        }
        Check.isTrue("the model is not spent", model.count(0) > 0);
        Check.due(bench.count(0), model.count(0));
    }

    /** Sums of slanting ways and kinds are looked at when a picture is whole, and spare no row. */
    private static void slantsAndKindsSpareNone() {
        for (int kind = 0; kind < 4; kind++) {
            ShadowBench bench = benchOf(kind, 6, 6, 25445518L);
            bench.cast(0, 2, 25445518L);
            bench.cast(0, 3, 25445518L);
            Check.due(bench.count(0), -5);
        }
    }

    private static void spentIsOverWithTheCall() {
        ShadowBench bench = benchOf(0, 6, 6, 25445518L);
        bench.job(0, 2, 2);
        bench.cast(1, 0, 9L);
        bench.cast(1, 1, 9L);
        Check.due(bench.count(0), -5);
        Check.due(bench.count(1), 2);
        Check.due(bench.count(0), -5);
        Check.due(bench.find(1, 1), 9L - 3L);
    }

    private static void meetings() {
        long from = 0;
        for (int y = 0; y < 6; y++) {
            from |= 1L << (6 * y + y) | 1L << (6 * y + (y + 1) % 6);
        }
        List<long[]> met = ModelBench.meetFrom(6, 6, from, 20100);
        ShadowBench bench = new ShadowBench();
        for (int i : new int[] {0, 1, 50, 1999, 19998, 19999}) {
            Check.due(bench.far(6, 6, from, met.get(i)[0]), met.get(i)[1]);
        }
        for (int i : new int[] {20000, 20001, 20099}) {
            Check.due(bench.far(6, 6, from, met.get(i)[0]), -5);
        }
        Check.due(bench.far(3, 3, 273, 84), 1);
    }
}
