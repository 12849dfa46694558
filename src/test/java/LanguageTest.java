import java.io.IOException;
import java.nio.file.Files;
import java.nio.file.Path;
import java.util.List;
import java.util.Set;
import java.util.regex.Matcher;
import java.util.regex.Pattern;

/** The rules of LANGUAGE.md that the source's own words show; run at the project's root. */
public final class LanguageTest {
    private static final Set<String> MAY_BE_CAUGHT = Set.of("IllegalStateException",
            "IllegalArgumentException", "UnsupportedOperationException", "NoSuchElementException");
    private static final Set<String> MAY_BE_IMPORTED = Set.of("java.util.Arrays",
            "java.util.ArrayList", "java.util.List");
    private static final Set<String> NOT_TO_BE_USED = Set.of("finally", "synchronized", "assert",
            "volatile", "transient", "native", "package", "System.out", "getMessage", "hashCode",
            "Thread", "Random", "Object", "var", "strictfp");

    private LanguageTest() {
    }

    public static void main(String[] args) throws IOException {
        String source = Files.readString(Path.of("src/main/java/ShadowBench.java"));
        Check.isTrue("signs 1 to 127 alone", source.chars().allMatch(c -> c > 0 && c < 128));
        String code = withoutCommentsAndTexts(source);
        for (String word : NOT_TO_BE_USED) {
            Check.isTrue("it has the word " + word,
                    !found(code, "\\b" + Pattern.quote(word) + "\\b"));
        }
        Check.isTrue("it has a function whose name ends in Exact", !found(code, "\\w+Exact\\b"));
        Check.isTrue("it has a method reference", !found(code, "::"));
        String withoutCases = code.replaceAll("(?m)^\\s*(case [^\n]*?|default) ->", "");
        Check.isTrue("it has a lambda", !found(withoutCases, "->"));
        Check.isTrue("it has a static block", !found(code, "static\\s*\\{"));
        Check.isTrue("it throws otherwise", !found(code, "\\bthrow\\b(?! new \\w+\\(\"?\"?\\))"));
        List<String> caught = all(code, "\\bcatch \\(([\\w |]+) \\w+\\)");
        for (String names : caught) {
            for (String name : names.split(" \\| ")) {
                Check.isTrue("it catches " + name, MAY_BE_CAUGHT.contains(name));
            }
        }
        Check.due(caught.size(), all(code, "\\b(catch)\\b").size());
        for (String name : all(code, "import ([\\w.*]+);")) {
            Check.isTrue("it imports " + name, MAY_BE_IMPORTED.contains(name));
        }
        int classes = all(code, "\\b(class|enum|record|interface) \\w+").size();
        Check.isTrue("more than twelve classes: " + classes, classes > 0 && classes <= 12);
        methodsAreShort(code);
        Check.end();
    }

    private static String withoutCommentsAndTexts(String source) {
        return source.replaceAll("(?s)/\\*.*?\\*/", "").replaceAll("//[^\n]*", "")
                .replaceAll("\"[^\"\n]*\"", "\"\"");
    }

    private static boolean found(String code, String pattern) {
        return Pattern.compile(pattern).matcher(code).find();
    }

    private static List<String> all(String code, String pattern) {
        return Pattern.compile(pattern).matcher(code).results().map(r -> r.group(1)).toList();
    }

    private static void methodsAreShort(String code) {
        Matcher method = Pattern.compile("(?m)^( +)[\\w\\[\\] ]+\\([^;{]*\\{$").matcher(code);
        int seen = 0;
        while (method.find()) {
            String end = "\n" + method.group(1).replace("\n", "") + "}";
            int stop = Math.max(method.end(), code.indexOf(end, method.end()));
            int lines = code.substring(method.start(), stop).split("\n").length;
            Check.isTrue(method.group().strip() + " has " + lines + " lines", lines <= 60);
            seen++;
        }
        Check.isTrue("methods are seen: " + seen, seen > 0);
    }
}
