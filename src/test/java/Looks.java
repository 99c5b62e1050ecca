/** What an orchard looks like, in a text that a test can spell out. */
final class Looks {
    private Looks() {
    }

    /**
     * A tree: its left part, its top and its right part in brackets; a dot where nothing hangs. An
     * apple whose above() or depthOf() does not fit to that has a sign behind its size.
     */
    static String tree(SplayOrchard orchard, int row) {
        return under(orchard, row, -1, orchard.top(row), 0);
    }

    /** How many calls tree() takes for so many apples. */
    static int callsOfTree(int apples) {
        return 1 + 4 * apples;
    }

    private static String under(SplayOrchard orchard, int row, int above, int size, int depth) {
        if (size == -1) {
            return ".";
        }
        String left = under(orchard, row, size, orchard.leftOf(row, size), depth + 1);
        String right = under(orchard, row, size, orchard.rightOf(row, size), depth + 1);
        String apple = size + (orchard.above(row, size) == above ? "" : "!above")
                + (orchard.depthOf(row, size) == depth ? "" : "!depth");
        return left.equals(".") && right.equals(".") ? apple
                : "(" + left + " " + apple + " " + right + ")";
    }
}
