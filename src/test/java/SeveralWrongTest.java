/** "If several exceptions apply, the one that is named first is thrown." */
final class SeveralWrongTest {
    private static final Script SCRIPT = new Script();

    private SeveralWrongTest() {
    }

    public static void main(String[] args) {
        for (int row : new int[] {-1, 6}) {
            for (int size : new int[] {-1, 1000}) {
                planting(row, size);
                splitting(row, size);
                plantingDepth(row, size);
                applesNotThere(row, size);
            }
            joining(row);
            places(row);
        }
        SCRIPT.end();
    }

    /** The row, then the size, then the 40 apples or the one that is there. */
    private static void planting(int row, int size) {
        String order = """
            plant R S ! IndexOutOfBounds
            plant R 500 ! IndexOutOfBounds
            plant 0 S ! IllegalArgument
            plant 5 S ! IllegalArgument
            """;
        SCRIPT.play("plant", with(row, size, "plants 0 500\n" + order));
        SCRIPT.play("plant, with 40 apples", with(row, size, full() + order + """
            plant 0 500 ! IllegalState
            plant 0 7 ! IllegalState
            plant R 7 ! IndexOutOfBounds
            """));
    }

    /** The rows, then the size, then what hangs in the other one. */
    private static void splitting(int row, int size) {
        SCRIPT.play("split", with(row, size, """
            plants 0 10 30 20
            plants 4 40
            split R S R ! IndexOutOfBounds
            split R S 0 ! IndexOutOfBounds
            split R S 1 ! IndexOutOfBounds
            split 0 S R ! IndexOutOfBounds
            split 1 S R ! IndexOutOfBounds
            split R 20 R ! IndexOutOfBounds
            split R 20 4 ! IndexOutOfBounds
            split 0 20 R ! IndexOutOfBounds
            split 0 S 0 ! IllegalArgument
            split 0 S 4 ! IllegalArgument
            split 0 S 1 ! IllegalArgument
            split 1 S 1 ! IllegalArgument
            split 1 S 4 ! IllegalArgument
            split 0 20 0 ! IllegalState
            split 0 20 4 ! IllegalState
            split 1 20 1 ! IllegalState
            split 1 20 4 ! IllegalState
            tree 0 = (10 20 30)
            tree 4 = 40
            """));
    }

    /** The row, then the size; an apple that is there is no exception, and neither are 40. */
    private static void plantingDepth(int row, int size) {
        SCRIPT.play("plantDepth", with(row, size, full() + """
            plantDepth R S ! IndexOutOfBounds
            plantDepth R 7 ! IndexOutOfBounds
            plantDepth 0 S ! IllegalArgument
            plantDepth 5 S ! IllegalArgument
            plantDepth 0 7 = -1
            plantDepth 5 7 = 0
            plantDepth 0 40 = 1
            """));
    }

    /** The row, then the apple; in whatever place the wrong size stands. */
    private static void applesNotThere(int row, int size) {
        SCRIPT.play("no row and no apple", with(row, size, """
            plants 0 10 30 20
            eat R S ! IndexOutOfBounds
            pick R S ! IndexOutOfBounds
            has R S ! IndexOutOfBounds
            smaller R S ! IndexOutOfBounds
            depthOf R S ! IndexOutOfBounds
            above R S ! IndexOutOfBounds
            leftOf R S ! IndexOutOfBounds
            rightOf R S ! IndexOutOfBounds
            below R S ! IndexOutOfBounds
            eaten R S ! IndexOutOfBounds
            meet R S S ! IndexOutOfBounds
            meet R S 20 ! IndexOutOfBounds
            meet R 20 S ! IndexOutOfBounds
            depthBehind R S S ! IndexOutOfBounds
            depthBehind R S 20 ! IndexOutOfBounds
            depthBehind R 20 S ! IndexOutOfBounds
            heightBehind R S ! IndexOutOfBounds
            tree 0 = (10 20 30)
            """));
    }

    /** The rows, then that both are the same or overlap. */
    private static void joining(int row) {
        SCRIPT.play("join", with(row, 0, """
            plants 0 10 30 20
            plants 4 20
            join R R ! IndexOutOfBounds
            join R 0 ! IndexOutOfBounds
            join 0 R ! IndexOutOfBounds
            join -1 6 ! IndexOutOfBounds
            join 6 -1 ! IndexOutOfBounds
            join 0 4 ! IllegalState
            join 4 0 ! IllegalState
            join 0 0 ! IllegalState
            join 1 1 ! IllegalState
            canJoin R R ! IndexOutOfBounds
            canJoin -1 6 ! IndexOutOfBounds
            canJoin 6 -1 ! IndexOutOfBounds
            tree 0 = (10 20 30)
            tree 4 = 20
            """));
    }

    private static void places(int row) {
        SCRIPT.play("no row and no place", with(row, 0, """
            plants 0 10 30 20
            inOrder R -1 ! IndexOutOfBounds
            inOrder R 3 ! IndexOutOfBounds
            """));
    }

    private static String full() {
        StringBuilder line = new StringBuilder("plants 0");
        for (int size = 0; size < 40; size++) {
            line.append(' ').append(size);
        }
        return line.append('\n').toString();
    }

    private static String with(int row, int size, String lines) {
        return lines.replace("R", String.valueOf(row)).replace("S ", size + " ");
    }
}
