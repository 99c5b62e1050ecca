/** What an orchard looks like, in a text that a test can spell out. */
final class Looks {
    private Looks() {
    }

    /** Everything that the calls tell of all rows, and the turnings. */
    static String of(SplayOrchard orchard) {
        StringBuilder text = new StringBuilder();
        for (int row = 0; row < 6; row++) {
            text.append(tree(orchard, row)).append(bites(orchard, row)).append(' ');
        }
        return text.append(orchard.turnings()).append(' ').append(orchard.digest()).toString();
    }

    /** A tree: its left part, its top and its right part in brackets; a dot where nothing hangs. */
    static String tree(SplayOrchard orchard, int row) {
        return under(orchard, row, orchard.top(row));
    }

    private static String under(SplayOrchard orchard, int row, int size) {
        if (size == -1) {
            return ".";
        }
        String left = under(orchard, row, orchard.leftOf(row, size));
        String right = under(orchard, row, orchard.rightOf(row, size));
        if (left.equals(".") && right.equals(".")) {
            return String.valueOf(size);
        }
        return "(" + left + " " + size + " " + right + ")";
    }

    /** How often one ate from each, in the order of sizes. */
    static String bites(SplayOrchard orchard, int row) {
        StringBuilder text = new StringBuilder("[");
        for (int place = 0; place < orchard.sizeOf(row); place++) {
            text.append(place == 0 ? "" : " ");
            text.append(orchard.eaten(row, orchard.inOrder(row, place)));
        }
        return text.append(']').toString();
    }
}
