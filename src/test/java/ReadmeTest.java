import java.io.IOException;
import java.lang.reflect.Method;
import java.lang.reflect.Modifier;
import java.nio.file.Files;
import java.nio.file.Path;
import java.util.List;
import java.util.TreeSet;
import java.util.regex.Matcher;
import java.util.regex.Pattern;
import java.util.stream.Stream;

/**
 * README.md, in the directory that -Droot names: the calls that it shows get the answers that it
 * shows, each call of the face is among them, and its table of tests names just those there are.
 */
final class ReadmeTest {
    private static final Script SCRIPT = new Script();
    private static final Check CHECK = new Check();
    private static final String MADE = "SplayOrchard orchard = new SplayOrchard();";
    private static final Pattern BLOCK = Pattern.compile("(?s)```java\n(.*?)```");
    private static final Pattern CALL =
            Pattern.compile("orchard\\.(\\w+)\\(([-\\d, ]*)\\); +// ([-\\w.]+)(:.*)?");
    private static final Pattern LISTED = Pattern.compile("(?m)^\\| `(\\w+)` \\|");

    private ReadmeTest() {
    }

    public static void main(String[] args) throws IOException {
        Path root = Path.of(System.getProperty("root"));
        String text = Files.readString(root.resolve("README.md"));
        showsTheAnswers(text);
        listsTheTests(text, root.resolve("src/test/java"));
        CHECK.end();
        SCRIPT.end();
    }

    private static void showsTheAnswers(String text) {
        TreeSet<String> shown = new TreeSet<>();
        Matcher block = BLOCK.matcher(text);
        for (int number = 1; block.find(); number++) {
            SCRIPT.play("README, run " + number, scriptOf(block.group(1), shown));
        }
        TreeSet<String> face = new TreeSet<>();
        for (Method method : SplayOrchard.class.getDeclaredMethods()) {
            if (Modifier.isPublic(method.getModifiers())) {
                face.add(method.getName());
            }
        }
        CHECK.sameText("the calls that are shown", shown.toString(), face.toString());
    }

    /** A run is shown from its object on, and all its calls with what they answer. */
    private static String scriptOf(String block, TreeSet<String> shown) {
        List<String> lines = block.strip().lines().toList();
        CHECK.sameText("the first line of a run", lines.get(0), MADE);
        StringBuilder script = new StringBuilder();
        for (String line : lines.subList(1, lines.size())) {
            Matcher call = CALL.matcher(line);
            if (!call.matches()) {
                CHECK.complain("README shows no answer: " + line);
                continue;
            }
            shown.add(call.group(1));
            script.append(call.group(1)).append(' ').append(call.group(2).replace(",", ""));
            script.append(answer(call.group(3))).append('\n');
        }
        return script.toString();
    }

    private static String answer(String shown) {
        return shown.endsWith("Exception") ? " ! " + shown.replace("Exception", "")
                : " = " + shown;
    }

    private static void listsTheTests(String text, Path directory) throws IOException {
        TreeSet<String> listed = new TreeSet<>();
        LISTED.matcher(text).results().forEach(row -> listed.add(row.group(1)));
        TreeSet<String> there = new TreeSet<>();
        try (Stream<Path> files = Files.list(directory)) {
            files.map(file -> file.getFileName().toString())
                    .filter(name -> name.endsWith("Test.java"))
                    .forEach(name -> there.add(name.replace(".java", "")));
        }
        CHECK.sameText("the tests that are listed", listed.toString(), there.toString());
    }
}
