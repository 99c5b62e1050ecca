import java.io.IOException;
import java.nio.file.Files;
import java.nio.file.Path;
import java.util.Set;
import java.util.TreeSet;
import java.util.regex.Matcher;
import java.util.regex.Pattern;

/**
 * What LANGUAGE.md rules out and a text shows, in the class under the directory that -Droot names.
 * It takes no note of what only a reader can judge.
 */
final class RulesTest {
    private static final Check CHECK = new Check();
    private static final String[] RULED_OUT = {
        "\\bimport\\b", "\\bpackage\\b", "\\btry\\b", "\\bcatch\\b", "\\bfinally\\b", "->", "::",
        "\\bassert\\b", "\\bsynchronized\\b", "\\bprotected\\b", "\\bstatic\\s*\\{",
        "\\bhashCode\\b", "\\bequals\\b", "\\btoString\\b", "\\w+Exact\\b", "\\bjava\\.",
        "throw (?!new )", "\"\\s*\\+", "\\+\\s*\"", "while \\(true", "for \\(;", "\\.\\.\\.",
    };
    /** Of the library that the rules 4 and 6 list, the part that the class needs. */
    private static final Set<String> LIBRARY = Set.of("Math", "IndexOutOfBoundsException",
            "IllegalArgumentException", "IllegalStateException");
    private static final int MOST_LINES = 60;
    private static final int MOST_CLASSES = 12;

    private RulesTest() {
    }

    public static void main(String[] args) throws IOException {
        Path root = Path.of(System.getProperty("root"));
        String text = Files.readString(root.resolve("src/main/java/SplayOrchard.java"));
        String code = text.replaceAll("(?s)/\\*.*?\\*/", " ").replaceAll("//[^\n]*", " ");
        for (String pattern : RULED_OUT) {
            Matcher matcher = Pattern.compile(pattern).matcher(code);
            if (matcher.find()) {
                CHECK.complain("ruled out: " + matcher.group());
            }
        }
        for (int i = 0; i < text.length(); i++) {
            if (text.charAt(i) > 126) {
                CHECK.complain("a sign above 126 at " + i);
            }
        }
        namesNoOtherClass(code.replaceAll("\"[^\"]*\"", " "));
        methodsAreShort(code);
        CHECK.end();
    }

    /** A name in capitals is a constant, one that begins with a capital a class. */
    private static void namesNoOtherClass(String code) {
        TreeSet<String> own = new TreeSet<>();
        Pattern.compile("\\bclass (\\w+)").matcher(code).results()
                .forEach(found -> own.add(found.group(1)));
        if (own.size() > MOST_CLASSES) {
            CHECK.complain(own.size() + " classes are too many");
        }
        Matcher name = Pattern.compile("\\b[A-Z]\\w*[a-z]\\w*").matcher(code);
        while (name.find()) {
            if (!own.contains(name.group()) && !LIBRARY.contains(name.group())) {
                CHECK.complain("not of the library that is listed: " + name.group());
            }
        }
    }

    /** From the line that names it to the bracket that closes it, as far in. */
    private static void methodsAreShort(String code) {
        Matcher method = Pattern.compile("(?ms)^( {4}| {8})(?=[a-zA-Z])(?![^\n]*class )"
                + "[^\n;]*[{)]$.*?^\\1\\}").matcher(code);
        while (method.find()) {
            long lines = method.group().lines().count();
            if (lines > MOST_LINES) {
                CHECK.complain(lines + " lines: " + method.group().lines().findFirst().get());
            }
        }
    }
}
