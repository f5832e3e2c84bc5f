import java.io.IOException;
import java.nio.file.Files;
import java.nio.file.Path;
import java.util.Set;
import java.util.regex.Matcher;
import java.util.regex.Pattern;

/** Those rules of LANGUAGE.md that can be seen from the program's text. */
final class RulesTest {
    private static final Checks CHECKS = new Checks("RulesTest");
    private static final String[] BANNED = {
        "\\bimport\\b", "\\bpackage\\b", "\\bthrows?\\b", "\\btry\\b", "\\bcatch\\b", "\\bfinally\\b", "\\bassert\\b",
        "\\bsynchronized\\b", "->", "::", "@", "Exact\\b", "\\bdouble\\b", "\\bfloat\\b", "\\bjava\\.", "\\bObject\\b",
        "\\bprotected\\b", "\\bvar\\b", "static \\{", "\\[\\]\\[\\]"
    };
    /** What the program takes from the library; more may be put here that LANGUAGE.md lists. */
    private static final Set<String> LIBRARY = Set.of(
        "Math.max", "Math.min", "Integer.bitCount", "Integer.MAX_VALUE", "Long.bitCount", "Long.numberOfTrailingZeros");
    private static final Pattern STATIC_USE = Pattern.compile("\\b(?:[A-Z]\\w*[a-z]\\w*)\\.\\w+");
    private static final Pattern METHOD = Pattern.compile("(?m)^( +)(?:[a-z]+ )*[A-Za-z\\[\\]]+ ?[a-zA-Z]+\\(([^)]*)\\) \\{$");

    public static void main(String[] args) throws IOException {
        String source = Files.readString(Path.of("src/main/java/ThirtyNine.java"));
        String code = source.replaceAll("(?s)/\\*.*?\\*/", "").replaceAll("//[^\\n]*", "");
        for (String banned : BANNED) {
            Matcher matcher = Pattern.compile(banned).matcher(code);
            CHECKS.holds("no " + banned, !matcher.find());
        }
        CHECKS.holds("plain signs alone", source.chars().allMatch(sign -> sign == '\n' || sign >= 32 && sign < 127));
        library(code);
        methods(code);
        CHECKS.end();
    }

    private static void library(String code) {
        Matcher matcher = STATIC_USE.matcher(code);
        while (matcher.find()) {
            String use = matcher.group();
            boolean own = Pattern.compile("\\bclass " + use.substring(0, use.indexOf('.')) + "\\b").matcher(code).find();
            CHECKS.holds("in the library's list: " + use, own || LIBRARY.contains(use));
        }
    }

    private static void methods(String code) {
        Matcher matcher = METHOD.matcher(code);
        int found = 0;
        while (matcher.find()) {
            found++;
            int end = code.indexOf("\n" + matcher.group(1) + "}", matcher.end());
            long lines = code.substring(matcher.start(), Math.max(end, matcher.start())).lines().count();
            CHECKS.holds("at most sixty lines: " + matcher.group(), end > 0 && lines <= 60);
            CHECKS.holds("at most seven parameters: " + matcher.group(), matcher.group(2).split(",").length <= 7);
        }
        CHECKS.holds("methods were found: " + found, found > 60);
    }
}
