import java.util.Set;

/** Compares answers with those that are due, and says where one is not. */
final class Check {
    private static final Set<String> HELPERS = Set.of("Check", "Refused", "Look");
    /** Far above what any test needs, so that a call that doesn't end is a failure too. */
    private static final long MOST_MILLISECONDS = 900_000L;
    private static int wrong = 0;
    private static int looked = 0;

    static {
        Thread watch = new Thread(Check::failWhenLate);
        watch.setDaemon(true);
        watch.start();
    }

    private Check() {
    }

    /** Something that is called only to see what it throws. */
    interface Call {
        void run();
    }

    static void due(long got, long want) {
        looked++;
        if (got != want) {
            tell("answered " + got + ", due is " + want);
        }
    }

    static void due(String what, String got, String want) {
        looked++;
        if (!got.equals(want)) {
            tell(what + " answered " + got + ", due is " + want);
        }
    }

    static void isTrue(String what, boolean holds) {
        looked++;
        if (!holds) {
            tell(what);
        }
    }

    /** Looks for an exception of just this class, thrown by a throw statement of ShadowBench. */
    static void thrown(Class<? extends RuntimeException> due, Call call) {
        looked++;
        try {
            call.run();
        } catch (RuntimeException e) {
            if (e.getClass() != due || !isOfTheBench(e)) {
                tell("threw " + e + ", due is " + due.getName());
            }
            return;
        }
        tell("threw nothing, due is " + due.getName());
    }

    static boolean isOfTheBench(RuntimeException e) {
        StackTraceElement[] trace = e.getStackTrace();
        return trace.length > 0 && trace[0].getClassName().startsWith("ShadowBench");
    }

    static void end() {
        System.out.println(looked + " looked at, " + wrong + " wrong");
        System.exit(wrong == 0 ? 0 : 1);
    }

    private static void failWhenLate() {
        try {
            Thread.sleep(MOST_MILLISECONDS);
        } catch (InterruptedException e) {
            return;
        }
        System.out.println("a call doesn't end");
        Runtime.getRuntime().halt(1);
    }

    private static void tell(String text) {
        wrong++;
        if (wrong <= 50) {
            System.out.println(place() + ": " + text);
        }
    }

    /** The nearest caller that is no helper. */
    private static String place() {
        StackTraceElement place = null;
        for (StackTraceElement e : new Throwable().getStackTrace()) {
            place = e;
            if (!HELPERS.contains(e.getClassName())) {
                break;
            }
        }
        return place.getFileName() + ", " + place.getMethodName() + ", line "
                + place.getLineNumber();
    }
}
