import java.lang.reflect.InvocationTargetException;
import java.lang.reflect.Method;
import java.lang.reflect.Modifier;
import java.util.Arrays;
import java.util.Comparator;
import java.util.Random;

/** Runs of calls, drawn from fixed seeds, on ShadowBench and ModelBench: all answers are alike. */
public final class ModelRunsTest {
    private static final int RUNS = 1200;
    private static final int ROUNDS = 60;
    /** What later calls on one object answer is free. */
    private static final int CALLS = 512;
    private static final int[] WILD_INTS = {-1, -2, 0, 1, 2, 3, 4, 5, 6, 7, 8, 9, 11, 12, 15, 16,
        36, 37, 60, 61, 99, 100, -99, -100, 200000, Integer.MAX_VALUE, Integer.MIN_VALUE,
        Integer.MAX_VALUE - 1, 1 << 30};
    private static final long[] WILD_LONGS = {-1L, 0L, 1L, (1L << 36) - 1L, 1L << 36, 1L << 63,
        Long.MAX_VALUE, 1L << 32, -5L, 1L << 62};

    private static final Method[] FACE = Arrays.stream(ShadowBench.class.getDeclaredMethods())
            .filter(m -> Modifier.isPublic(m.getModifiers()))
            .sorted(Comparator.comparing(Method::getName)).toArray(Method[]::new);

    private final long seed;
    private final Random random;
    private final ShadowBench bench = new ShadowBench();
    private final ModelBench model = new ModelBench();
    private final int mostEdge;
    private int wide;
    private int high;
    private long picture;
    private int calls = 0;
    private int jobs = 0;
    private final int[] jobKind = new int[8];
    private final int[] jobWide = new int[8];
    private final int[] jobHigh = new int[8];

    private ModelRunsTest(long seed) {
        this.seed = seed;
        random = new Random(seed);
        // Great boards spend a search, which is slow, so most runs keep to lesser ones.
        mostEdge = seed % 10 == 0 ? 6 : 3 + (int) (seed % 3);
    }

    public static void main(String[] args) {
        for (long seed = 0; seed < RUNS; seed++) {
            new ModelRunsTest(seed).run();
        }
        Check.end();
    }

    private void run() {
        nextBoard();
        for (int i = 0; i < ROUNDS; i++) {
            if (random.nextInt(4) == 0) {
                nextBoard();
            }
            switch (random.nextInt(8)) {
                case 0:
                    askOfPictures();
                    break;
                case 1:
                    askOfList();
                    break;
                case 2:
                    askOfShelves();
                    break;
                case 3:
                case 4:
                case 5:
                    askOfJob();
                    break;
                default:
                    callAny();
                    break;
            }
        }
    }

    private void callAny() {
        for (int i = 0; i < 6; i++) {
            Method method = FACE[random.nextInt(FACE.length)];
            call(method.getName(), valuesFor(method));
        }
    }

    /** A job whose sums come of one picture, so that there is something that fits. */
    private void askOfJob() {
        if (jobs == 0 || (jobs < 8 && random.nextInt(3) == 0)) {
            call("job", random.nextInt(4), wide, high);
        }
        int job = random.nextInt(jobs);
        wide = jobWide[job];
        high = jobHigh[job];
        picture = jobKind[job] == 1 || jobKind[job] == 2 ? block() : somePicture();
        call("cast", job, 0, picture);
        call("cast", job, 1, random.nextInt(5) == 0 ? shuffled(picture) : picture);
        for (int way = 2; way < 4; way++) {
            if (random.nextInt(3) == 0) {
                call("cast", job, way, picture);
            } else if (random.nextInt(3) > 0) {
                call("untell", job, way);
            }
        }
        for (int square = 0; square < wide * high; square++) {
            boolean held = random.nextInt(15) == 0;
            call("hold", job, square, held ? (int) (picture >> square & 1) : 2);
            if (jobKind[job] == 3) {
                call("mark", job, square, random.nextInt(7) - 3);
            }
        }
        if (random.nextInt(4) == 0) {
            call("sum", job, random.nextInt(4), random.nextInt(Math.min(wide, high)), some(7));
        }
        askWhatFits(job);
    }

    private void askWhatFits(int job) {
        call("count", job);
        call("clash", job);
        call("best", job);
        call("bestOne", job);
        call("sure", job, random.nextInt(wide * high));
        call("sure", job, random.nextInt(wide * high));
        for (int i = 0; i < 3; i++) {
            call("find", job, random.nextInt(i == 0 ? 2 : 1 + i * 10));
            call("rank", job, akin(picture));
            call("fits", job, akin(picture));
        }
        call("rank", job, picture);
    }

    private void askOfPictures() {
        long from = somePicture();
        long to = akin(from);
        call("far", wide, high, from, to);
        call("parts", wide, high, from, to, random.nextInt(16));
        int n = model.switches(wide, high, from);
        call("switches", wide, high, from);
        call("switched", wide, high, from, random.nextInt(n + 1));
        for (int how = 0; how < 4; how++) {
            call("turned", wide, high, from, how);
            call("shadow", wide, high, from, how, random.nextInt(Math.min(wide, high)));
        }
        long whole = block();
        call("joined", wide, high, whole);
        call("even", wide, high, whole, false);
        call("even", wide, high, whole, true);
    }

    private void askOfList() {
        if (random.nextInt(3) > 0) {
            call("clear");
        }
        picture = somePicture();
        for (int i = random.nextInt(14); i >= 0; i--) {
            call("list", wide, high, random.nextInt(3) == 0 ? somePicture() : akin(picture));
            call("ways");
        }
    }

    private void askOfShelves() {
        if (jobs == 0) {
            call("job", random.nextInt(4), wide, high);
        }
        for (int d = 0; d < 8; d++) {
            int job = someJob();
            if (random.nextInt(3) == 0) {
                call("make", d, 3 + random.nextInt(2), random.nextInt(61));
            } else {
                call("keep", d, random.nextInt(5), job, pictureOr(2));
            }
        }
        for (int i = 0; i < 12; i++) {
            int d = random.nextInt(8);
            int n = random.nextInt(4);
            int e = random.nextInt(3) == 0 ? d : random.nextInt(8);
            call("copy", d, random.nextInt(6), e, random.nextInt(6), n);
            call("element", e, random.nextInt(10));
            call("layer", e, random.nextInt(2));
            call("weight", d);
            call("toss", d);
        }
    }

    /** Makes the same call on both and looks whether they answer alike. */
    private void call(String name, Object... values) {
        if (calls >= CALLS) {
            return;
        }
        calls++;
        Class<?>[] types = named(name).getParameterTypes();
        Object[] fitting = values.clone();
        for (int i = 0; i < values.length; i++) {
            if (types[i] == long.class && values[i] instanceof Integer) {
                fitting[i] = (long) (Integer) values[i];
            }
        }
        String want = answer(model, name, types, fitting);
        String got = answer(bench, name, types, fitting);
        Check.due("run " + seed + ", call " + calls + ": " + name + Arrays.toString(values), got,
                want);
        if (name.equals("job") && !want.startsWith("-")) {
            jobKind[jobs] = (Integer) values[0];
            jobWide[jobs] = (Integer) values[1];
            jobHigh[jobs] = (Integer) values[2];
            jobs++;
        }
    }

    private static Method named(String name) {
        return Arrays.stream(FACE).filter(m -> m.getName().equals(name)).findFirst().get();
    }

    private static String answer(Object on, String name, Class<?>[] types, Object[] values) {
        try {
            return on.getClass().getMethod(name, types).invoke(on, values).toString();
        } catch (InvocationTargetException e) {
            RuntimeException thrown = (RuntimeException) e.getCause();
            boolean own = !(on instanceof ShadowBench) || Check.isOfTheBench(thrown);
            return (own ? "throws." : "the machine throws.") + thrown.getClass().getSimpleName();
        } catch (ReflectiveOperationException e) {
            return "can't be called: " + e;
        }
    }

    private void nextBoard() {
        wide = 1 + Math.max(random.nextInt(mostEdge), random.nextInt(mostEdge));
        high = 1 + Math.max(random.nextInt(mostEdge), random.nextInt(mostEdge));
        picture = somePicture();
    }

    private long somePicture() {
        long mask = (1L << (wide * high)) - 1;
        long one = random.nextLong() & mask;
        switch (random.nextInt(4)) {
            case 0:
                return one & random.nextLong();
            case 1:
                return one | (random.nextLong() & mask);
            case 2:
                return block() & mask;
            default:
                return one;
        }
    }

    /** A picture that hangs together, for the kinds that ask for it. */
    private long block() {
        long all = 0;
        int x = random.nextInt(wide);
        int y = random.nextInt(high);
        for (int i = random.nextInt(12); i >= 0; i--) {
            all |= 1L << (y * wide + x);
            if (random.nextBoolean()) {
                x = Math.max(0, Math.min(wide - 1, x + random.nextInt(3) - 1));
            } else {
                y = Math.max(0, Math.min(high - 1, y + random.nextInt(3) - 1));
            }
        }
        return all;
    }

    /** Another picture with as many ones, whose sums may clash with the first one's. */
    private long shuffled(long one) {
        int left = Long.bitCount(one);
        long all = 0;
        int skew = random.nextInt(3);
        while (left > 0) {
            int x = skew == 0 ? random.nextInt(1 + random.nextInt(wide)) : random.nextInt(wide);
            long bit = 1L << (random.nextInt(high) * wide + x);
            left -= (all & bit) == 0 ? 1 : 0;
            all |= bit;
        }
        return all;
    }

    private int some(int below) {
        return random.nextInt(25) == 0 ? WILD_INTS[random.nextInt(WILD_INTS.length)]
                : random.nextInt(below);
    }

    private int someJob() {
        int job = some(Math.max(1, jobs));
        if (job >= 0 && job < jobs) {
            wide = jobWide[job];
            high = jobHigh[job];
            if (picture >= 1L << (wide * high) || random.nextInt(3) == 0) {
                picture = somePicture();
            }
        }
        return job;
    }

    private long pictureOr(int odds) {
        if (random.nextInt(30) == 0) {
            return random.nextBoolean() ? 1L << (wide * high)
                    : WILD_LONGS[random.nextInt(WILD_LONGS.length)];
        }
        return random.nextInt(odds) == 0 ? somePicture() : picture;
    }

    /** A picture with the rows' and columns' sums of the one at hand. */
    private long akin(long from) {
        long to = from;
        for (int i = random.nextInt(6); i > 0; i--) {
            int n = model.switches(wide, high, to);
            to = n > 0 ? model.switched(wide, high, to, random.nextInt(n)) : to;
        }
        return to;
    }

    private int edge(int due) {
        return random.nextInt(40) == 0 ? WILD_INTS[random.nextInt(WILD_INTS.length)] : due;
    }

    private Object[] valuesFor(Method method) {
        switch (method.getName()) {
            case "job":
                return new Object[] {some(4), edge(wide), edge(high)};
            case "sum": {
                int job = someJob();
                return new Object[] {job, some(4), some(Math.max(wide, high)), some(7)};
            }
            case "cast": {
                int job = someJob();
                return new Object[] {job, random.nextInt(3) == 0 ? some(4) : some(2), pictureOr(6)};
            }
            case "untell":
                return new Object[] {someJob(), 2 + some(2)};
            case "hold": {
                int job = someJob();
                return new Object[] {job, some(wide * high), random.nextBoolean() ? 2 : some(3)};
            }
            case "mark": {
                int job = someJob();
                return new Object[] {job, some(wide * high), some(199) - 99};
            }
            case "told": {
                int job = someJob();
                return new Object[] {job, some(4), some(wide + high) - 1};
            }
            case "fits":
            case "rank": {
                int job = someJob();
                return new Object[] {job, random.nextBoolean() ? pictureOr(4) : akin(picture)};
            }
            case "find":
                return new Object[] {someJob(), some(random.nextBoolean() ? 3 : 40)};
            case "sure": {
                int job = someJob();
                return new Object[] {job, some(wide * high)};
            }
            case "count":
            case "clash":
            case "best":
            case "bestOne":
                return new Object[] {someJob()};
            case "clear":
            case "ways":
                return new Object[0];
            default:
                return valuesWithoutJob(method.getName());
        }
    }

    private Object[] valuesWithoutJob(String name) {
        switch (name) {
            case "shadow":
                return new Object[] {edge(wide), edge(high), pictureOr(2), some(4),
                    some(wide + high)};
            case "switches":
            case "joined":
                return new Object[] {edge(wide), edge(high), pictureOr(2)};
            case "list":
                return new Object[] {edge(wide), edge(high),
                    random.nextInt(3) == 0 ? pictureOr(2) : akin(picture)};
            case "switched":
                return new Object[] {edge(wide), edge(high), pictureOr(2), some(20)};
            case "far":
                return new Object[] {edge(wide), edge(high), picture,
                    random.nextInt(5) == 0 ? pictureOr(2) : akin(picture)};
            case "even":
                return new Object[] {edge(wide), edge(high), pictureOr(2), random.nextBoolean()};
            case "turned":
                return new Object[] {edge(wide), edge(high), pictureOr(2), some(4)};
            case "parts":
                return new Object[] {edge(wide), edge(high), picture,
                    random.nextInt(3) == 0 ? pictureOr(2) : akin(picture), some(16)};
            case "ghost":
                return new Object[] {some(16), some(6), some(6)};
            case "haunts":
            case "ghosts":
                return new Object[] {some(16), 1 + some(6), 1 + some(6)};
            default:
                return valuesOfShelves(name);
        }
    }

    private Object[] valuesOfShelves(String name) {
        switch (name) {
            case "keep": {
                int job = someJob();
                return new Object[] {some(8), some(5), job, pictureOr(2)};
            }
            case "make":
                return new Object[] {some(8), 3 + some(2), some(61)};
            case "element":
                return new Object[] {some(8), some(12)};
            case "copy":
                return new Object[] {some(8), some(6), some(8), some(6), some(8)};
            case "layer":
                return new Object[] {some(8), some(3)};
            case "weight":
            case "toss":
                return new Object[] {some(8)};
            default:
                throw new IllegalArgumentException("no values for " + name);
        }
    }
}
