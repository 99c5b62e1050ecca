/** What each call answers of an empty row, and of a row with one apple. */
final class FewApplesTest {
    private static final Script SCRIPT = new Script();

    private FewApplesTest() {
    }

    public static void main(String[] args) {
        for (int row = 0; row < 6; row += 5) {
            empty("from the beginning", row, "");
            empty("since a pick", row, "plants R 20\npick R 20 = 0\n");
            empty("since a split", row, "plants R 20\nsplit R 20 2 = 1\npick 2 20 = 0\n");
            empty("since a join", row, "plants R 20\njoin 2 R = 1\npick 2 20 = 0\n");
            empty("behind bites", row, "plants R 20\neat R 20 = 0\neat R 20 = 0\npick R 20 = 2\n");
            one("planted", row, "plant R 20 = 0\n");
            one("come by a split", row, "plants 2 20\nsplit 2 20 R = 1\n");
            one("come by a join", row, "plants 2 20\njoin R 2 = 1\n");
            one("planted again", row, "plant R 20 = 0\npick R 20 = 0\nplant R 20 = 0\n");
        }
        SCRIPT.end();
    }

    /** Row 3 has the apples that this one has not, and row 1 is empty too. */
    private static void empty(String how, int row, String before) {
        SCRIPT.play("row " + row + ", empty " + how, ("plants 3 20\n" + before + """
            apples = 1
            turnings = 0
            sizeOf R = 0
            top R = -1
            height R = 0
            leastHeight R = 0
            depths R = 0
            smallest R = -1
            greatest R = -1
            inOrder R 0 ! IndexOutOfBounds
            inOrder R -1 ! IndexOutOfBounds
            inOrder R 1 ! IndexOutOfBounds
            leaves R = 0
            has R 20 = false
            smaller R 20 = 0
            smaller R 999 = 0
            depthOf R 20 ! IllegalState
            above R 20 ! IllegalState
            leftOf R 20 ! IllegalState
            rightOf R 20 ! IllegalState
            below R 20 ! IllegalState
            eaten R 20 ! IllegalState
            favourite R = -1
            meet R 20 20 ! IllegalState
            depthBehind R 20 20 ! IllegalState
            heightBehind R 20 ! IllegalState
            bestToEat R = -1
            plantDepth R 20 = 0
            canJoin R R = false
            canJoin R 1 = true
            canJoin R 3 = true
            canJoin 3 R = true
            meanDepth R = 0.0
            eat R 20 ! IllegalState
            pick R 20 ! IllegalState
            split R 20 R ! IllegalState
            split R 20 3 ! IllegalState
            split R 20 1 = 0
            join R R ! IllegalState
            join R 1 = 0
            join 3 R = 1
            join R 3 = 1
            tree R = 20
            tree 3 = .
            join 3 R = 1
            tree R = .
            plant R 20 = 0
            eaten R 20 = 0
            turnings = 0
            """).replace("R ", row + " "));
    }

    private static void one(String how, int row, String before) {
        SCRIPT.play("row " + row + ", one apple " + how, (before + """
            apples = 1
            turnings = 0
            sizeOf R = 1
            top R = 20
            height R = 1
            leastHeight R = 1
            depths R = 0
            smallest R = 20
            greatest R = 20
            inOrder R 0 = 20
            inOrder R 1 ! IndexOutOfBounds
            inOrder R -1 ! IndexOutOfBounds
            leaves R = 1
            has R 20 = true
            has R 19 = false
            has R 21 = false
            smaller R 20 = 0
            smaller R 21 = 1
            depthOf R 20 = 0
            above R 20 = -1
            leftOf R 20 = -1
            rightOf R 20 = -1
            below R 20 = 0
            eaten R 20 = 0
            favourite R = 20
            meet R 20 20 = 20
            meet R 20 21 ! IllegalState
            depthBehind R 20 20 = 0
            depthBehind R 20 21 ! IllegalState
            heightBehind R 20 = 1
            bestToEat R = 20
            plantDepth R 19 = 1
            plantDepth R 20 = -1
            plantDepth R 21 = 1
            canJoin R R = false
            meanDepth R = 0.0
            plant R 20 ! IllegalState
            join R R ! IllegalState
            split R 20 R ! IllegalState
            eat R 20 = 0
            eaten R 20 = 1
            split R 21 1 = 0
            split R 20 1 = 1
            split 1 19 R = 1
            join R 1 = 1
            join 1 R = 1
            tree 1 = 20
            tree R = .
            join R 1 = 1
            pick R 20 = 1
            tree R = .
            apples = 0
            turnings = 0
            """).replace("R ", row + " "));
    }
}
