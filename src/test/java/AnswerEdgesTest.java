/**
 * Promises 12 to 33: "of several the smallest", "-1 for the top", "itself not", "or the same", the
 * places in a row and the numbers where a call's answer steps up.
 */
final class AnswerEdgesTest {
    private static final Script SCRIPT = new Script();

    private AnswerEdgesTest() {
    }

    public static void main(String[] args) {
        favouriteOfSeveral();
        bestToEatOfSeveral();
        bestToEatByDepths();
        places();
        smallerOnes();
        leastHeights();
        leaves();
        neighbours();
        meetings();
        whatWouldBe();
        plantingDepths();
        means();
        SCRIPT.end();
    }

    private static void favouriteOfSeveral() {
        SCRIPT.play("favourite", """
            plants 0 30 10 20
            favourite 0 = 10
            eat 0 30 = 1
            favourite 0 = 30
            eat 0 20 = 1
            favourite 0 = 20
            eat 0 10 = 1
            favourite 0 = 10
            eat 0 30 = 2
            favourite 0 = 30
            eat 0 20 = 1
            favourite 0 = 20
            pick 0 20 = 2
            favourite 0 = 30
            pick 0 30 = 2
            favourite 0 = 10
            """);
    }

    /** In the first tree bites leave 6, 4, 4, 6 added depths, in the second one 1 and 1. */
    private static void bestToEatOfSeveral() {
        SCRIPT.play("bestToEat", """
            plants 0 10 20 30 40
            tree 0 = (((10 20 .) 30 .) 40 .)
            bestToEat 0 = 20
            plants 1 10 20
            bestToEat 1 = 10
            eat 1 10 = 1
            bestToEat 1 = 10
            turnings = 5
            eaten 0 20 = 0
            eat 0 20 = 2
            depths 0 = 4
            bestToEat 0 = 20
            """);
        SCRIPT.play("bestToEat, three with 9 added depths", """
            plants 0 20 60 30 50 40 10
            tree 0 = (. 10 ((. 20 30) 40 (. 50 60)))
            bestToEat 0 = 20
            """);
    }

    /** The least sum of depths need not come with the least height: 40 would leave 4 levels too. */
    private static void bestToEatByDepths() {
        SCRIPT.play("bestToEat, by the depths alone", """
            plants 0 70 20 60 50 40 30 10
            tree 0 = (. 10 (. 20 (. 30 (. 40 (. 50 (. 60 70))))))
            heightBehind 0 40 = 4
            heightBehind 0 50 = 4
            bestToEat 0 = 50
            eat 0 50 = 4
            depths 0 = 11
            """);
        SCRIPT.play("bestToEat, not the least height", """
            plants 0 80 60 70 50 30 20 10 40
            heightBehind 0 40 = 5
            heightBehind 0 50 = 4
            bestToEat 0 = 40
            depths 0 = 15
            eat 0 50 = 1
            depths 0 = 15
            """);
    }

    /** "a place in the order of sizes, from 0 on" */
    private static void places() {
        SCRIPT.play("inOrder", """
            plants 0 20 40 10 30
            inOrder 0 0 = 10
            inOrder 0 1 = 20
            inOrder 0 2 = 30
            inOrder 0 3 = 40
            inOrder 0 4 ! IndexOutOfBounds
            inOrder 0 5 ! IndexOutOfBounds
            inOrder 0 40 ! IndexOutOfBounds
            inOrder 0 -1 ! IndexOutOfBounds
            inOrder 0 2147483647 ! IndexOutOfBounds
            inOrder 0 -2147483648 ! IndexOutOfBounds
            smallest 0 = 10
            greatest 0 = 40
            pick 0 40 = 0
            inOrder 0 2 = 30
            inOrder 0 3 ! IndexOutOfBounds
            greatest 0 = 30
            pick 0 10 = 0
            inOrder 0 0 = 20
            inOrder 0 2 ! IndexOutOfBounds
            smallest 0 = 20
            inOrder 1 0 ! IndexOutOfBounds
            """);
    }

    /** "there need not be one of this size"; one of this size is not smaller. */
    private static void smallerOnes() {
        SCRIPT.play("smaller", """
            plants 0 20 40 10 30
            smaller 0 9 = 0
            smaller 0 10 = 0
            smaller 0 11 = 1
            smaller 0 20 = 1
            smaller 0 25 = 2
            smaller 0 40 = 3
            smaller 0 41 = 4
            smaller 0 999 = 4
            """);
    }

    /** Where all levels are full, and with one apple more. */
    private static void leastHeights() {
        SCRIPT.play("leastHeight", """
            leastHeight 0 = 0
            plants 0 1
            leastHeight 0 = 1
            plants 0 2
            leastHeight 0 = 2
            plants 0 3
            leastHeight 0 = 2
            plants 0 4
            leastHeight 0 = 3
            plants 0 5 6 7
            leastHeight 0 = 3
            plants 0 8
            leastHeight 0 = 4
            plants 0 9 10 11 12 13 14 15
            leastHeight 0 = 4
            plants 0 16
            leastHeight 0 = 5
            plants 0 17 18 19 20 21 22 23 24 25 26 27 28 29 30 31
            leastHeight 0 = 5
            plants 0 32
            leastHeight 0 = 6
            plants 0 33 34 35 36 37 38 39 40
            leastHeight 0 = 6
            pick 0 40 = 0
            leastHeight 0 = 6
            """);
    }

    /** One that has something on one side alone is no leaf. */
    private static void leaves() {
        SCRIPT.play("leaves", """
            plants 0 10 20 30
            tree 0 = ((10 20 .) 30 .)
            leaves 0 = 1
            eat 0 10 = 2
            tree 0 = (. 10 (. 20 30))
            leaves 0 = 1
            eat 0 20 = 1
            tree 0 = (10 20 30)
            leaves 0 = 2
            """);
    }

    /** -1 above the top, and where nothing hangs on a side. */
    private static void neighbours() {
        SCRIPT.play("above, leftOf, rightOf, below, depthOf", """
            plants 0 50 10 30 20 40
            tree 0 = ((10 20 30) 40 50)
            above 0 40 = -1
            above 0 20 = 40
            above 0 50 = 40
            above 0 30 = 20
            leftOf 0 40 = 20
            rightOf 0 40 = 50
            leftOf 0 50 = -1
            rightOf 0 50 = -1
            leftOf 0 20 = 10
            rightOf 0 20 = 30
            below 0 40 = 4
            below 0 20 = 2
            below 0 10 = 0
            below 0 50 = 0
            depthOf 0 40 = 0
            depthOf 0 20 = 1
            depthOf 0 30 = 2
            height 0 = 3
            depths 0 = 6
            """);
    }

    private static void meetings() {
        SCRIPT.play("meet", """
            plants 0 50 10 30 20 40
            tree 0 = ((10 20 30) 40 50)
            meet 0 40 40 = 40
            meet 0 10 10 = 10
            meet 0 10 30 = 20
            meet 0 30 10 = 20
            meet 0 10 20 = 20
            meet 0 20 30 = 20
            meet 0 10 50 = 40
            meet 0 50 30 = 40
            meet 0 40 10 = 40
            meet 0 50 40 = 40
            meet 0 10 15 ! IllegalState
            meet 0 15 10 ! IllegalState
            meet 0 15 15 ! IllegalState
            plants 1 15
            meet 0 15 10 ! IllegalState
            meet 0 10 15 ! IllegalState
            """);
    }

    /** The other one may be the same; whatever is refused, nothing is eaten. */
    private static void whatWouldBe() {
        SCRIPT.play("depthBehind and heightBehind", """
            plants 0 50 10 30 20 40
            tree 0 = ((10 20 30) 40 50)
            turnings = 8
            depthBehind 0 10 10 = 0
            depthBehind 0 40 40 = 0
            depthBehind 0 10 40 = 2
            depthBehind 0 10 50 = 3
            depthBehind 0 20 30 = 2
            depthBehind 0 50 10 = 3
            depthBehind 0 40 10 = 2
            heightBehind 0 10 = 4
            heightBehind 0 20 = 3
            heightBehind 0 40 = 3
            heightBehind 0 50 = 4
            depthBehind 0 10 15 ! IllegalState
            depthBehind 0 15 10 ! IllegalState
            heightBehind 0 15 ! IllegalState
            plants 1 15
            depthBehind 0 10 15 ! IllegalState
            depthBehind 0 15 10 ! IllegalState
            heightBehind 0 15 ! IllegalState
            heightBehind 1 15 = 1
            eaten 0 10 = 0
            tree 0 = ((10 20 30) 40 50)
            turnings = 8
            eat 0 10 = 2
            depthOf 0 50 = 3
            height 0 = 4
            """);
    }

    /** -1 if there is one, and else what plant() answers then. */
    private static void plantingDepths() {
        SCRIPT.play("plantDepth", """
            plants 0 50 10 30 20 40
            plants 1 35
            plantDepth 0 5 = 3
            plantDepth 0 10 = -1
            plantDepth 0 35 = 3
            plantDepth 0 40 = -1
            plantDepth 0 45 = 2
            plantDepth 0 50 = -1
            plantDepth 0 55 = 2
            plantDepth 1 35 = -1
            plantDepth 1 40 = 1
            plantDepth 2 40 = 0
            plant 0 35 = 3
            plantDepth 0 35 = -1
            """);
    }

    private static void means() {
        SCRIPT.play("meanDepth", """
            meanDepth 0 = 0.0
            plants 0 10
            meanDepth 0 = 0.0
            plants 0 20
            meanDepth 0 = 0.5
            plants 0 30
            meanDepth 0 = 1.0
            plants 0 40
            meanDepth 0 = 1.5
            eat 0 10 = 3
            meanDepth 0 = 1.5
            pick 0 40 = 0
            meanDepth 0 = 1.0
            """);
        SCRIPT.play("meanDepth, 6 by 5", """
            plants 0 50 10 30 20 40
            tree 0 = ((10 20 30) 40 50)
            depths 0 = 6
            meanDepth 0 = 1.2
            """);
    }
}
