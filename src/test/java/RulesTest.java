import java.io.IOException;
import java.nio.file.Files;
import java.nio.file.Path;
import java.util.regex.Matcher;
import java.util.regex.Pattern;

/**
 * What LANGUAGE.md rules out and a text shows, in the file that -Dsource names. It takes no note
 * of what only a reader can judge.
 */
final class RulesTest {
    private static final Check CHECK = new Check();
    private static final String[] RULED_OUT = {
        "\\bimport\\b", "\\bpackage\\b", "\\btry\\b", "\\bcatch\\b", "\\bfinally\\b", "->", "::",
        "\\bassert\\b", "\\bsynchronized\\b", "\\bprotected\\b", "\\bstatic\\s*\\{", "\\bSystem\\b",
        "\\bRandom\\b", "\\bThread\\b", "\\bhashCode\\b", "\\bequals\\b", "\\btoString\\b",
        "\\w+Exact\\b", "\\bObject\\b", "\\bjava\\.", "throw (?!new )",
        "\"\\s*\\+", "\\+\\s*\"",
    };

    private RulesTest() {
    }

    public static void main(String[] args) throws IOException {
        String text = Files.readString(Path.of(System.getProperty("source")));
        String code = text.replaceAll("(?s)/\\*.*?\\*/", " ").replaceAll("//[^\n]*", " ");
        for (String pattern : RULED_OUT) {
            Matcher matcher = Pattern.compile(pattern).matcher(code);
            if (matcher.find()) {
                CHECK.complain("ruled out: " + matcher.group());
            }
        }
        for (int i = 0; i < text.length(); i++) {
            if (text.charAt(i) > 126) {
                CHECK.complain("a sign above 126 at " + i);
            }
        }
        CHECK.end();
    }
}
