import java.io.IOException;
import java.nio.file.Files;
import java.nio.file.Path;
import java.util.HashMap;
import java.util.HashSet;
import java.util.Map;
import java.util.Set;
import java.util.regex.Matcher;
import java.util.regex.Pattern;

/** Those of the rules of LANGUAGE.md that can be told from the source's words alone. */
public final class LanguageTest {
    private static final String[] FORBIDDEN = {"->", "::", "\\bcatch\\b", "\\btry\\b", "\\bfinally\\b", "\\bsynchronized\\b",
        "\\bassert\\b", "\\bvar\\b", "\\binstanceof\\b", "\\bpackage\\b", "\\bprotected\\b", "static \\{", "\\bObject\\b",
        "\\bThread\\b", "\\bRandom\\b", "Exact\\b", "\\bnative\\b", "\\bvolatile\\b", "getClass", "hashCode", "toString",
        "\\bwhile \\(true\\)", "for \\(;", "@"};
    private static final Pattern METHOD = Pattern.compile("\n( {4}| {8})(?:[a-z]+ )*[\\w\\[\\]]+ (\\w+)\\(([^)]*)\\)[^;{]*\\{");
    private static final Pattern CALL = Pattern.compile("\\b(\\w+)\\(");
    private static final int MOST_LINES = 60;
    private static final int MOST_PARAMETERS = 7;
    private static final int MOST_DEEP = 8;
    private static final int MOST_CLASSES = 12;

    private static final Map<String, Set<String>> CALLS = new HashMap<>();

    public static void main(String[] args) throws IOException {
        String source = Files.readString(Path.of("src/main/java/Ticketdoor.java"));
        Check.that("signs 1 to 127 alone", source.chars().allMatch(sign -> sign < 128));
        String code = source.replaceAll("(?s)/\\*.*?\\*/", "").replaceAll("//[^\n]*", "").replaceAll("\"[^\"\n]*\"", "\"\"");
        for (String word : FORBIDDEN) {
            Check.that("nowhere " + word, !Pattern.compile(word).matcher(code).find());
        }
        onlyFrom(code, "import ([\\w.]+);", Set.of("java.util.Arrays", "java.util.NoSuchElementException"));
        onlyFrom(code, "\\bSystem\\.(\\w+)", Set.of("arraycopy"));
        onlyFrom(code, "\\bArrays\\.(\\w+)", Set.of("fill"));
        onlyFrom(code, "\\b(?:Math|Integer|Long)\\.(\\w+)", Set.of("max", "min", "bitCount"));
        onlyFrom(code, "throw new (\\w+)\\(\"\"\\);", Set.of("IndexOutOfBoundsException", "IllegalArgumentException",
                "IllegalStateException", "ArithmeticException", "NoSuchElementException", "UnsupportedOperationException"));
        Check.due("each throw is a new one", occurrences(code, "\\bthrow\\b"), () -> occurrences(code, "\\bthrow new \\w+\\(\"\"\\);"));
        Check.that("few classes", occurrences(code, "\\bclass\\b") <= MOST_CLASSES);
        methods(code);
        for (String method : CALLS.keySet()) {
            Check.that("at most eight deep from " + method, depth(method, new HashSet<>()) <= MOST_DEEP);
        }
        Check.finish("LanguageTest");
    }

    private static int occurrences(String code, String pattern) {
        return (int) Pattern.compile(pattern).matcher(code).results().count();
    }

    private static void onlyFrom(String code, String pattern, Set<String> allowed) {
        Matcher matcher = Pattern.compile(pattern).matcher(code);
        while (matcher.find()) {
            Check.that("allowed " + matcher.group(), allowed.contains(matcher.group(1)));
        }
    }

    private static void methods(String code) {
        Matcher matcher = METHOD.matcher(code);
        while (matcher.find()) {
            int end = code.indexOf("\n" + matcher.group(1) + "}", matcher.end());
            String body = code.substring(matcher.end(), end);
            String name = matcher.group(2);
            Check.that("short " + name, body.lines().count() <= MOST_LINES);
            Check.that("few parameters " + name, matcher.group(3).split(",").length <= MOST_PARAMETERS);
            boolean callsItself = Pattern.compile("(?<![.\\w])" + name + "\\(").matcher(body).find();
            Check.that("no recursion but a static one " + name, !callsItself || matcher.group().contains("private static"));
            Set<String> called = CALLS.computeIfAbsent(name, key -> new HashSet<>());
            Matcher calls = CALL.matcher(body);
            while (calls.find()) {
                called.add(calls.group(1));
            }
        }
        Check.that("methods are found", CALLS.size() > 100);
    }

    /** By names alone, so that a method with another's name counts as that, too; a recursion counts once. */
    private static int depth(String method, Set<String> standing) {
        if (!CALLS.containsKey(method) || !standing.add(method)) {
            return 0;
        }
        int deepest = 0;
        for (String called : CALLS.get(method)) {
            deepest = Math.max(deepest, depth(called, standing));
        }
        standing.remove(method);
        return deepest + 1;
    }
}
