/** "At most 40 apples are in all rows together": the 40th and the 41st. */
final class FullOrchardTest {
    private static final Script SCRIPT = new Script();

    private FullOrchardTest() {
    }

    public static void main(String[] args) {
        allInOneRow();
        for (int row = 0; row < 6; row++) {
            spread(row);
        }
        theOneThatIsThere();
        planted39();
        oneComesWhenOneHasGone();
        nothingElseIsRefused();
        rowsAreMovedWhole();
        SCRIPT.end();
    }

    private static void allInOneRow() {
        SCRIPT.play("40 in one row", sizes(0, 0, 39) + """
            apples = 39
            plant 0 39 = 1
            apples = 40
            sizeOf 0 = 40
            plant 0 40 ! IllegalState
            plant 0 999 ! IllegalState
            plant 1 40 ! IllegalState
            plant 5 0 ! IllegalState
            apples = 40
            sizeOf 0 = 40
            sizeOf 1 = 0
            turnings = 39
            """);
    }

    /** 10 in row 1, 20 in row 2, 9 in row 5; the 40th in each row, the 41st in none. */
    private static void spread(int row) {
        int deep = row == 1 || row == 2 || row == 5 ? 1 : 0;
        SCRIPT.play("the 40th in row " + row,
                sizes(1, 100, 110) + sizes(2, 100, 120) + sizes(5, 100, 109) + """
            apples = 39
            plant R 500 = D
            apples = 40
            plant 0 600 ! IllegalState
            plant 1 600 ! IllegalState
            plant 2 600 ! IllegalState
            plant 3 600 ! IllegalState
            plant 4 600 ! IllegalState
            plant 5 600 ! IllegalState
            apples = 40
            """.replace("R", "" + row).replace("D", "" + deep));
    }

    private static void theOneThatIsThere() {
        SCRIPT.play("one of the size is there", """
            plant 0 20 = 0
            plant 0 20 ! IllegalState
            plants 0 10 30
            tree 0 = ((10 20 .) 30 .)
            plant 0 10 ! IllegalState
            plant 0 20 ! IllegalState
            plant 0 30 ! IllegalState
            plant 1 20 = 0
            plant 0 19 = 3
            plant 0 21 = 3
            """);
    }

    /** The deepest that one can hang: below a chain of the 39 others. */
    private static void planted39() {
        SCRIPT.play("the 40th hangs 39 deep", sizes(0, 1, 40) + """
            depths 0 = 741
            height 0 = 39
            plantDepth 0 0 = 39
            plant 0 0 = 39
            turnings = 77
            top 0 = 0
            sizeOf 0 = 40
            """);
    }

    private static void oneComesWhenOneHasGone() {
        SCRIPT.play("a pick makes room for one", sizes(0, 0, 40) + """
            pick 0 39 = 0
            apples = 39
            plant 5 999 = 0
            apples = 40
            plant 5 998 ! IllegalState
            plant 0 39 ! IllegalState
            pick 5 999 = 0
            plant 0 39 = 1
            plant 5 999 ! IllegalState
            apples = 40
            """);
    }

    /** Only plant is refused for 40 apples. */
    private static void nothingElseIsRefused() {
        SCRIPT.play("all else with 40 apples", sizes(0, 0, 40) + """
            sizeOf 0 = 40
            leastHeight 0 = 6
            height 0 = 40
            depths 0 = 780
            meanDepth 0 = 19.5
            leaves 0 = 1
            smallest 0 = 0
            greatest 0 = 39
            inOrder 0 39 = 39
            inOrder 0 40 ! IndexOutOfBounds
            smaller 0 39 = 39
            smaller 0 40 = 40
            depthOf 0 0 = 39
            below 0 39 = 39
            meet 0 0 1 = 1
            depthBehind 0 0 39 = 1
            heightBehind 0 0 = 22
            plantDepth 0 40 = 1
            plantDepth 0 39 = -1
            plantDepth 5 40 = 0
            eat 0 0 = 39
            turnings = 78
            height 0 = 22
            """);
    }

    private static void rowsAreMovedWhole() {
        SCRIPT.play("split and join with 40 apples", sizes(0, 0, 40) + """
            split 0 39 5 = 1
            plant 1 50 ! IllegalState
            join 0 5 = 40
            plant 5 50 ! IllegalState
            split 0 0 1 = 40
            plant 0 50 ! IllegalState
            join 0 1 = 40
            apples = 40
            plant 1 50 ! IllegalState
            """);
    }

    /** Plants sizes, the last one not, which makes a chain to the left. */
    private static String sizes(int row, int first, int end) {
        StringBuilder line = new StringBuilder("plants " + row);
        for (int size = first; size < end; size++) {
            line.append(' ').append(size);
        }
        return line.append('\n').toString();
    }
}
