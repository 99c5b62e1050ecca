/** "Each has a size, 0 to 999": sizes -1, 0, 999 and 1000, where they are planted and asked for. */
final class SizesTest {
    private static final Script SCRIPT = new Script();

    private SizesTest() {
    }

    public static void main(String[] args) {
        planted();
        askedForPlanting();
        splitAt();
        answered();
        compared();
        eatenAndPicked();
        for (int size : new int[] {-1, 0, 999, 1000}) {
            notThere(size);
        }
        SCRIPT.end();
    }

    private static void planted() {
        SCRIPT.play("plant", """
            plant 0 -1 ! IllegalArgument
            plant 0 1000 ! IllegalArgument
            plant 0 0 = 0
            plant 0 999 = 1
            tree 0 = (0 999 .)
            plant 0 -1 ! IllegalArgument
            plant 0 1000 ! IllegalArgument
            plant 0 0 ! IllegalState
            plant 0 999 ! IllegalState
            plant 1 999 = 0
            plant 1 0 = 1
            tree 1 = (. 0 999)
            """);
    }

    private static void askedForPlanting() {
        SCRIPT.play("plantDepth", """
            plantDepth 0 -1 ! IllegalArgument
            plantDepth 0 0 = 0
            plantDepth 0 999 = 0
            plantDepth 0 1000 ! IllegalArgument
            plant 0 500 = 0
            plantDepth 0 -1 ! IllegalArgument
            plantDepth 0 0 = 1
            plantDepth 0 999 = 1
            plantDepth 0 1000 ! IllegalArgument
            plant 0 0 = 1
            plant 0 999 = 2
            plantDepth 0 0 = -1
            plantDepth 0 999 = -1
            plantDepth 0 1 = 3
            plantDepth 0 998 = 2
            """);
    }

    private static void splitAt() {
        SCRIPT.play("split", """
            split 5 -1 3 ! IllegalArgument
            split 5 1000 3 ! IllegalArgument
            split 5 0 3 = 0
            split 5 999 3 = 0
            plants 0 0 999
            split 0 -1 1 ! IllegalArgument
            split 0 1000 1 ! IllegalArgument
            split 0 0 1 = 2
            tree 0 = .
            tree 1 = (0 999 .)
            split 1 999 2 = 1
            tree 1 = 0
            tree 2 = 999
            split 2 999 3 = 1
            split 1 0 4 = 1
            tree 3 = 999
            tree 4 = 0
            """);
    }

    /** 0 is a size, and -1 is none. */
    private static void answered() {
        SCRIPT.play("the sizes 0 and 999 as answers", """
            plants 0 999 500 0
            tree 0 = (. 0 (. 500 999))
            top 0 = 0
            smallest 0 = 0
            greatest 0 = 999
            inOrder 0 0 = 0
            inOrder 0 2 = 999
            above 0 0 = -1
            above 0 500 = 0
            rightOf 0 500 = 999
            meet 0 0 999 = 0
            meet 0 999 0 = 0
            meet 0 999 999 = 999
            favourite 0 = 0
            eat 0 999 = 2
            tree 0 = ((0 500 .) 999 .)
            top 0 = 999
            leftOf 0 500 = 0
            above 0 500 = 999
            favourite 0 = 999
            """);
        SCRIPT.play("the size 0 as the best to eat", """
            plants 0 999 0
            bestToEat 0 = 0
            eat 0 999 = 1
            bestToEat 0 = 0
            """);
    }

    /** has and smaller name no exception for a size: they answer of -1 and 1000 as well. */
    private static void compared() {
        SCRIPT.play("has and smaller", """
            plants 0 0 500 999
            has 0 -1 = false
            has 0 0 = true
            has 0 999 = true
            has 0 1000 = false
            smaller 0 -1 = 0
            smaller 0 0 = 0
            smaller 0 1 = 1
            smaller 0 999 = 2
            smaller 0 1000 = 3
            has 5 -1 = false
            has 5 1000 = false
            smaller 5 -1 = 0
            smaller 5 1000 = 0
            """);
    }

    private static void eatenAndPicked() {
        SCRIPT.play("apples of the sizes 0 and 999", """
            plants 0 0 999
            depthOf 0 0 = 1
            depthOf 0 999 = 0
            below 0 0 = 0
            below 0 999 = 1
            rightOf 0 0 = -1
            rightOf 0 999 = -1
            depthBehind 0 0 999 = 1
            depthBehind 0 999 0 = 1
            heightBehind 0 0 = 2
            heightBehind 0 999 = 2
            eat 0 0 = 1
            eat 0 999 = 1
            eat 0 999 = 0
            eaten 0 0 = 1
            eaten 0 999 = 2
            pick 0 0 = 1
            pick 0 999 = 2
            apples = 0
            """);
    }

    /** A call that takes an apple's size names no IllegalArgumentException: none is there. */
    private static void notThere(int size) {
        SCRIPT.play("no apple of the size " + size, """
            plants 0 300 700 500
            tree 0 = (300 500 700)
            eat 0 S ! IllegalState
            pick 0 S ! IllegalState
            depthOf 0 S ! IllegalState
            above 0 S ! IllegalState
            leftOf 0 S ! IllegalState
            rightOf 0 S ! IllegalState
            below 0 S ! IllegalState
            eaten 0 S ! IllegalState
            meet 0 S 500 ! IllegalState
            meet 0 500 S ! IllegalState
            meet 0 S S ! IllegalState
            depthBehind 0 S 500 ! IllegalState
            depthBehind 0 500 S ! IllegalState
            depthBehind 0 S S ! IllegalState
            heightBehind 0 S ! IllegalState
            has 0 S = false
            tree 0 = (300 500 700)
            """.replace("S ", size + " "));
    }
}
