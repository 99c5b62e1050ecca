/** "There are 6, numbered from 0": rows -1, 0, 5 and 6, in the first and in the second place. */
final class RowsTest {
    private static final Script SCRIPT = new Script();
    private static final int[] NO_ROWS = {-1, 6};

    private RowsTest() {
    }

    public static void main(String[] args) {
        allAreEmptyAtFirst();
        eachIsOneOfItsOwn();
        for (int row = 0; row < 6; row++) {
            for (int other = 0; other < 6; other++) {
                if (row != other) {
                    bothAreThere(row, other);
                }
            }
        }
        for (int row : NO_ROWS) {
            noneInTheFirstPlace(row);
            noneInTheSecondPlace(row);
        }
        SCRIPT.end();
    }

    private static void allAreEmptyAtFirst() {
        StringBuilder lines = new StringBuilder("apples = 0\nturnings = 0\n");
        for (int row = 0; row < 6; row++) {
            lines.append("sizeOf ").append(row).append(" = 0\n");
            lines.append("top ").append(row).append(" = -1\n");
        }
        SCRIPT.play("a new orchard", lines.toString());
    }

    private static void eachIsOneOfItsOwn() {
        SCRIPT.play("the same size in each row", """
            plant 0 7 = 0
            plant 1 7 = 0
            plant 2 7 = 0
            plant 3 7 = 0
            plant 4 7 = 0
            plant 5 7 = 0
            apples = 6
            eat 0 7 = 0
            eat 5 7 = 0
            eat 5 7 = 0
            eaten 0 7 = 1
            eaten 1 7 = 0
            eaten 2 7 = 0
            eaten 3 7 = 0
            eaten 4 7 = 0
            eaten 5 7 = 2
            pick 1 7 = 0
            has 0 7 = true
            has 1 7 = false
            has 2 7 = true
            has 5 7 = true
            turnings = 0
            """);
    }

    /** All calls, of a row that is there, and of another one where they take two. */
    private static void bothAreThere(int row, int other) {
        SCRIPT.play("rows " + row + " and " + other, with(row, other, """
            plant O 500 = 0
            plant R 10 = 0
            plant R 30 = 1
            plant R 20 = 2
            tree R = (10 20 30)
            eat R 20 = 0
            eat R 30 = 1
            eat R 20 = 1
            sizeOf R = 3
            top R = 20
            height R = 2
            leastHeight R = 2
            depths R = 2
            smallest R = 10
            greatest R = 30
            inOrder R 0 = 10
            inOrder R 2 = 30
            leaves R = 2
            has R 20 = true
            has R 500 = false
            smaller R 30 = 2
            depthOf R 30 = 1
            above R 30 = 20
            leftOf R 20 = 10
            rightOf R 20 = 30
            below R 20 = 2
            eaten R 20 = 2
            favourite R = 20
            meet R 10 30 = 20
            depthBehind R 10 30 = 2
            heightBehind R 10 = 3
            bestToEat R = 20
            plantDepth R 25 = 2
            meanDepth R = 0.6666666666666666
            sizeOf O = 1
            top O = 500
            canJoin R O = true
            canJoin O R = false
            join R O = 4
            tree R = ((10 20 .) 30 500)
            sizeOf O = 0
            split R 20 O = 3
            tree R = 10
            tree O = (. 20 (. 30 500))
            pick O 30 = 1
            pick R 10 = 0
            sizeOf R = 0
            sizeOf O = 2
            """));
    }

    private static void noneInTheFirstPlace(int row) {
        SCRIPT.play("no row " + row, with(row, 5, """
            plants 0 10 30 20
            plants 4 40
            plant R 15 ! IndexOutOfBounds
            eat R 20 ! IndexOutOfBounds
            pick R 20 ! IndexOutOfBounds
            split R 20 0 ! IndexOutOfBounds
            split R 20 5 ! IndexOutOfBounds
            join R 0 ! IndexOutOfBounds
            join R 5 ! IndexOutOfBounds
            sizeOf R ! IndexOutOfBounds
            top R ! IndexOutOfBounds
            height R ! IndexOutOfBounds
            leastHeight R ! IndexOutOfBounds
            depths R ! IndexOutOfBounds
            smallest R ! IndexOutOfBounds
            greatest R ! IndexOutOfBounds
            inOrder R 0 ! IndexOutOfBounds
            leaves R ! IndexOutOfBounds
            has R 20 ! IndexOutOfBounds
            smaller R 20 ! IndexOutOfBounds
            depthOf R 20 ! IndexOutOfBounds
            above R 20 ! IndexOutOfBounds
            leftOf R 20 ! IndexOutOfBounds
            rightOf R 20 ! IndexOutOfBounds
            below R 20 ! IndexOutOfBounds
            eaten R 20 ! IndexOutOfBounds
            favourite R ! IndexOutOfBounds
            meet R 20 20 ! IndexOutOfBounds
            depthBehind R 20 20 ! IndexOutOfBounds
            heightBehind R 20 ! IndexOutOfBounds
            bestToEat R ! IndexOutOfBounds
            plantDepth R 15 ! IndexOutOfBounds
            canJoin R 0 ! IndexOutOfBounds
            canJoin R 5 ! IndexOutOfBounds
            meanDepth R ! IndexOutOfBounds
            tree 0 = (10 20 30)
            tree 4 = 40
            """));
    }

    /** Of an empty row too, of which nothing would go or come. */
    private static void noneInTheSecondPlace(int row) {
        SCRIPT.play("no other row " + row, with(0, row, """
            plants 0 10 30 20
            split 0 20 O ! IndexOutOfBounds
            split 0 0 O ! IndexOutOfBounds
            split 0 999 O ! IndexOutOfBounds
            split 5 20 O ! IndexOutOfBounds
            split O 20 O ! IndexOutOfBounds
            join 0 O ! IndexOutOfBounds
            join 5 O ! IndexOutOfBounds
            join O O ! IndexOutOfBounds
            canJoin 0 O ! IndexOutOfBounds
            canJoin 5 O ! IndexOutOfBounds
            canJoin O O ! IndexOutOfBounds
            tree 0 = (10 20 30)
            """));
    }

    private static String with(int row, int other, String lines) {
        return lines.replace(" R", " " + row).replace(" O", " " + other);
    }
}
