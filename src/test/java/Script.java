import java.lang.reflect.InvocationTargetException;
import java.lang.reflect.Method;
import java.util.Set;

/**
 * Plays runs of calls on new objects, a line each: "eat 0 20 = 1" is a call and its answer, and
 * "eat 0 25 ! IllegalState" one that throws that exception. "plants 0 30 20 10" plants several, and
 * "tree 0 = (. 10 20)" says what hangs in a row, as Looks writes it.
 *
 * <p>Around each call that is refused, and each that only asks, digest() must stay the same.
 */
final class Script {
    private static final Set<String> CHANGES = Set.of("plant", "eat", "pick", "split", "join");
    /** What an object answers behind these calls is free, so that no run may take more. */
    private static final int MOST_CALLS = 512;

    private final Check check = new Check();
    private String title;
    private SplayOrchard orchard;
    private int calls;

    void play(String runTitle, String lines) {
        title = runTitle;
        orchard = new SplayOrchard();
        calls = 0;
        for (String line : lines.strip().split("\\s*\n\\s*")) {
            play(line);
        }
        if (calls > MOST_CALLS) {
            check.complain(title + ": " + calls + " calls are too many");
        }
    }

    void end() {
        check.end();
    }

    private void play(String line) {
        if (line.startsWith("plants ")) {
            plantAll(words(line));
            return;
        }
        int sign = Math.max(line.indexOf(" = "), line.indexOf(" ! "));
        if (sign < 0) {
            check.complain(title + ": " + line + " is no line of a run");
            return;
        }
        String[] call = words(line.substring(0, sign));
        boolean refused = line.charAt(sign + 1) == '!';
        String due = line.substring(sign + 3).strip() + (refused ? "Exception" : "");
        String got = call[0].equals("tree") ? tree(number(call[1]))
                : refused || !CHANGES.contains(call[0]) ? outcomeBetweenDigests(call)
                : outcome(call);
        check.sameText(title + ": " + line.substring(0, sign), got, due);
    }

    private void plantAll(String[] words) {
        for (int i = 2; i < words.length; i++) {
            orchard.plant(number(words[1]), number(words[i]));
            calls++;
        }
    }

    private String tree(int row) {
        calls += Looks.callsOfTree(orchard.sizeOf(row)) + 1;
        return Looks.tree(orchard, row);
    }

    private String outcomeBetweenDigests(String[] call) {
        long before = orchard.digest();
        String got = outcome(call);
        check.same(title + ": digest() behind " + String.join(" ", call), orchard.digest(), before);
        calls += 2;
        return got;
    }

    /** The answer, or the simple name of the exception. */
    private String outcome(String[] call) {
        calls++;
        Integer[] numbers = new Integer[call.length - 1];
        for (int i = 0; i < numbers.length; i++) {
            numbers[i] = number(call[i + 1]);
        }
        try {
            return String.valueOf(method(call[0]).invoke(orchard, (Object[]) numbers));
        } catch (InvocationTargetException e) {
            return e.getCause().getClass().getSimpleName();
        } catch (IllegalAccessException e) {
            throw new IllegalStateException(e);
        }
    }

    /** No two methods of the face have the same name. */
    private static Method method(String name) {
        for (Method method : SplayOrchard.class.getMethods()) {
            if (method.getName().equals(name)) {
                return method;
            }
        }
        throw new IllegalStateException("no method " + name);
    }

    private static String[] words(String text) {
        return text.strip().split(" +");
    }

    private static int number(String word) {
        return Integer.parseInt(word);
    }
}
