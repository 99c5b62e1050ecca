/** Each answer at its greatest, as far as 40 apples, the sizes 0 to 999 and 512 calls let it grow. */
final class ExtremesTest {
    private static final Script SCRIPT = new Script();

    private ExtremesTest() {
    }

    public static void main(String[] args) {
        chainToTheLeft();
        chainToTheRight();
        roomForOneMore();
        mostLeaves();
        mostApplesToMove();
        mostBites();
        greatestSizes();
        leastSizes();
        SCRIPT.end();
    }

    /** Each apple is greater than all before it; the top is 40. */
    private static void chainToTheLeft() {
        SCRIPT.play("a chain of 40 to the left", planted(1, 41) + """
            sizeOf 0 = 40
            height 0 = 40
            leastHeight 0 = 6
            depths 0 = 780
            meanDepth 0 = 19.5
            leaves 0 = 1
            inOrder 0 39 = 40
            smaller 0 41 = 40
            depthOf 0 1 = 39
            below 0 40 = 39
            meet 0 1 1 = 1
            depthBehind 0 40 1 = 39
            heightBehind 0 40 = 40
            depthBehind 0 1 40 = 1
            heightBehind 0 1 = 22
            plantDepth 0 0 = 40
            plantDepth 0 41 = 1
            eat 0 1 = 39
            """);
    }

    /** Each apple is smaller than all before it; the top is 0. */
    private static void chainToTheRight() {
        StringBuilder lines = new StringBuilder("plants 0");
        for (int size = 39; size >= 0; size--) {
            lines.append(' ').append(size);
        }
        SCRIPT.play("a chain of 40 to the right", lines + """

            height 0 = 40
            depths 0 = 780
            meanDepth 0 = 19.5
            leaves 0 = 1
            inOrder 0 39 = 39
            depthOf 0 39 = 39
            below 0 0 = 39
            depthBehind 0 0 39 = 39
            heightBehind 0 0 = 40
            depthBehind 0 39 0 = 1
            heightBehind 0 39 = 22
            plantDepth 0 40 = 40
            eat 0 39 = 39
            turnings = 78
            """);
    }

    private static void roomForOneMore() {
        SCRIPT.play("the 40th below a chain of 39", planted(1, 40) + """
            plantDepth 0 0 = 39
            plant 0 0 = 39
            turnings = 77
            pick 0 0 = 0
            apples = 39
            """);
    }

    /** 20 pairs, the greatest first: each smaller one is a leaf, each greater one the next's top. */
    private static void mostLeaves() {
        StringBuilder lines = new StringBuilder();
        for (int pair = 19; pair >= 0; pair--) {
            int row = pair % 2;
            lines.append("plants ").append(row).append(' ').append(2 * pair).append(' ');
            lines.append(2 * pair + 1).append('\n');
            lines.append("join ").append(row).append(' ').append(1 - row).append(" = ");
            lines.append(40 - 2 * pair).append('\n');
        }
        SCRIPT.play("20 leaves", lines + """
            leaves 0 = 20
            height 0 = 21
            turnings = 20
            leftOf 0 39 = 38
            depthOf 0 38 = 20
            """);
    }

    private static void mostApplesToMove() {
        SCRIPT.play("40 apples to move", planted(0, 40) + """
            split 0 1 5 = 39
            tree 0 = 0
            canJoin 0 5 = true
            canJoin 5 0 = false
            join 0 5 = 40
            split 0 0 5 = 40
            canJoin 0 5 = true
            canJoin 5 0 = true
            join 0 5 = 40
            split 0 39 5 = 1
            canJoin 0 5 = true
            join 0 5 = 40
            """);
    }

    private static void mostBites() {
        SCRIPT.play("510 bites", "plant 0 7 = 0\n" + "eat 0 7 = 0\n".repeat(510)
                + "pick 0 7 = 510\n");
    }

    private static void greatestSizes() {
        SCRIPT.play("the size 999", """
            plants 5 999
            top 5 = 999
            smallest 5 = 999
            greatest 5 = 999
            inOrder 5 0 = 999
            has 5 999 = true
            favourite 5 = 999
            meet 5 999 999 = 999
            bestToEat 5 = 999
            plants 5 998
            above 5 999 = 998
            rightOf 5 998 = 999
            eat 5 999 = 1
            above 5 998 = 999
            leftOf 5 999 = 998
            """);
    }

    /** 0 is an answer as good as any other. */
    private static void leastSizes() {
        SCRIPT.play("the size 0", """
            plants 5 0
            top 5 = 0
            smallest 5 = 0
            greatest 5 = 0
            inOrder 5 0 = 0
            has 5 0 = true
            favourite 5 = 0
            meet 5 0 0 = 0
            bestToEat 5 = 0
            plantDepth 5 0 = -1
            plants 5 1
            leftOf 5 1 = 0
            above 5 0 = 1
            meet 5 0 1 = 1
            eat 5 0 = 1
            above 5 1 = 0
            meet 5 0 1 = 0
            """);
    }

    /** The sizes from one to below another, in row 0. */
    private static String planted(int first, int end) {
        StringBuilder line = new StringBuilder("plants 0");
        for (int size = first; size < end; size++) {
            line.append(' ').append(size);
        }
        return line.append('\n').toString();
    }
}
