import java.io.IOException;
import java.lang.reflect.InvocationTargetException;
import java.lang.reflect.Method;
import java.nio.file.Files;
import java.nio.file.Path;
import java.util.ArrayList;
import java.util.Comparator;
import java.util.List;
import java.util.Map;
import java.util.TreeMap;

/**
 * Each sentence of the document that names a boundary case, by a test of its own: runs all that say
 * so by Says, and looks whether their words stand in the document and leave none of it out.
 */
public final class BoundariesTest {
    private static final List<Class<?>> TESTS = List.of(TermEdges.class, SearchEdges.class,
            JobEdges.class, FitEdges.class, PictureEdges.class, ListEdges.class, ShelfEdges.class);
    private static final Path DOCUMENT = Path.of("../shared/DOC.md");
    private static final int PROMISES = 37;
    /** What the document says beside: the names of calls, and what it says of the interface. */
    private static final String[] NO_BOUNDARY = {"```text", "```", "going on only with",
        "Ahead of the calls `switches`, `switched`, `far`, `joined`, `even`, `turned`, `parts` the "
            + "interface says: ---- pictures of a board.",
        "Ahead of the calls `list`, `clear`, `ways` the interface says: ---- many pictures: a list.",
        "Ahead of the calls `ghost`, `haunts`, `ghosts`, `keep`, `make`, `element`, `copy`, "
            + "`layer`, `weight`, `toss` the interface says: ---- ghosts."};

    private BoundariesTest() {
    }

    public static void main(String[] args) throws IOException {
        List<Method> tests = tests();
        for (Method test : tests) {
            run(test);
        }
        if (Files.isReadable(DOCUMENT)) {
            Map<Integer, String> document = sections(Files.readString(DOCUMENT));
            for (int promise = 0; promise <= PROMISES; promise++) {
                nothingIsLeftOut(promise, document.getOrDefault(promise, ""), tests);
            }
        } else {
            System.out.println("no document at " + DOCUMENT + ": words are not looked at");
        }
        Check.end();
    }

    private static List<Method> tests() {
        List<Method> tests = new ArrayList<>();
        for (Class<?> one : TESTS) {
            for (Method method : one.getDeclaredMethods()) {
                if (method.isAnnotationPresent(Says.class)) {
                    tests.add(method);
                }
            }
        }
        tests.sort(Comparator.comparing((Method m) -> m.getAnnotation(Says.class).promise())
                .thenComparing(Method::getName));
        return tests;
    }

    private static void run(Method test) {
        try {
            test.invoke(null);
        } catch (InvocationTargetException e) {
            e.getCause().printStackTrace(System.out);
            Check.isTrue(test.getName() + " threw " + e.getCause(), false);
        } catch (ReflectiveOperationException e) {
            Check.isTrue(test.getName() + " can't be run: " + e, false);
        }
    }

    /** The words of each promise, and of what stands before the promises as number 0. */
    private static Map<Integer, String> sections(String document) {
        Map<Integer, String> sections = new TreeMap<>();
        for (String section : document.split("(?m)^## ")) {
            String heading = section.split("\n", 2)[0];
            String words = plain(section.substring(heading.length()));
            if (heading.startsWith("Promise ")) {
                int promise = Integer.parseInt(heading.replaceAll("Promise (\\d+):.*", "$1"));
                sections.put(promise, words.replaceFirst("^`[^`]*`: ", ""));
            } else if (heading.equals("Terms")) {
                sections.merge(0, words, (before, more) -> before + " " + more);
            } else if (heading.equals("What it is")) {
                int uses = words.indexOf("An object is used");
                sections.merge(0, words.substring(Math.max(0, uses)), (a, more) -> a + " " + more);
            }
        }
        return sections;
    }

    private static String plain(String text) {
        return text.replaceAll("\\s+", " ").strip();
    }

    private static void nothingIsLeftOut(int promise, String section, List<Method> tests) {
        Check.isTrue("the document has no promise " + promise, !section.isEmpty());
        StringBuilder left = new StringBuilder(section);
        for (Method test : tests) {
            Says says = test.getAnnotation(Says.class);
            for (String words : says.words()) {
                if (says.promise() == promise) {
                    Check.isTrue("the document doesn't say: " + words, section.contains(words));
                    strike(left, section, words);
                }
            }
        }
        for (String words : NO_BOUNDARY) {
            strike(left, section, words);
        }
        String rest = left.toString().replaceAll("[\\s,;]+", " ").strip();
        Check.due("what no test says of promise " + promise, rest, "");
    }

    /** Blanks all places where the words stand. */
    private static void strike(StringBuilder left, String section, String words) {
        int at = section.indexOf(words);
        while (at >= 0) {
            left.replace(at, at + words.length(), " ".repeat(words.length()));
            at = section.indexOf(words, at + 1);
        }
    }
}
