/** Promise 4: an apple picked with nothing on the left, on the right, on both sides, on neither. */
final class PickTest {
    private static final Script SCRIPT = new Script();

    private PickTest() {
    }

    public static void main(String[] args) {
        nothingOnEitherSide();
        nothingOnTheLeft();
        nothingOnTheRight();
        somethingOnBothSides();
        theGreatestIsBroughtUpByItself();
        broughtUpFirst();
        answersBites();
        refused();
        SCRIPT.end();
    }

    private static void nothingOnEitherSide() {
        SCRIPT.play("nothing on either side", """
            plant 0 20 = 0
            pick 0 20 = 0
            tree 0 = .
            apples = 0
            turnings = 0
            """);
    }

    /** "without anything on the left that on the right is the tree", as it hangs. */
    private static void nothingOnTheLeft() {
        SCRIPT.play("nothing on the left", """
            plants 0 30 20 40 10
            tree 0 = (. 10 ((. 20 30) 40 .))
            turnings = 6
            pick 0 10 = 0
            tree 0 = ((. 20 30) 40 .)
            turnings = 6
            """);
        SCRIPT.play("nothing on the left of one deeper", """
            plants 0 10 20 30 40
            turnings = 3
            pick 0 10 = 0
            tree 0 = ((. 20 30) 40 .)
            turnings = 6
            """);
    }

    /** The greatest one on the left is brought up all the same. */
    private static void nothingOnTheRight() {
        SCRIPT.play("nothing on the right, the greatest is above all", """
            plants 0 10 20 30
            tree 0 = ((10 20 .) 30 .)
            turnings = 2
            pick 0 30 = 0
            tree 0 = (10 20 .)
            turnings = 2
            """);
        SCRIPT.play("nothing on the right, the greatest is deeper", """
            plants 0 20 30 10 40
            tree 0 = ((. 10 (20 30 .)) 40 .)
            turnings = 6
            pick 0 40 = 0
            tree 0 = ((. 10 20) 30 .)
            turnings = 7
            """);
    }

    private static void somethingOnBothSides() {
        SCRIPT.play("one on each side", """
            plants 0 10 30 20
            turnings = 3
            pick 0 20 = 0
            tree 0 = (. 10 30)
            turnings = 3
            """);
        SCRIPT.play("trees on both sides", """
            plants 0 60 20 40 10 50 30
            tree 0 = ((10 20 .) 30 (40 50 60))
            pick 0 30 = 0
            tree 0 = (10 20 (40 50 60))
            """);
    }

    /** "as a tree of its own": in the row's tree it hangs one deeper. */
    private static void theGreatestIsBroughtUpByItself() {
        SCRIPT.play("1 deep by itself", """
            plants 0 30 20 50 10 40
            tree 0 = ((. 10 (20 30 .)) 40 50)
            turnings = 10
            pick 0 40 = 0
            tree 0 = ((. 10 20) 30 50)
            turnings = 11
            """);
        SCRIPT.play("2 deep by itself", """
            plants 0 30 40 60 20 10 50
            tree 0 = ((. 10 (. 20 (30 40 .))) 50 60)
            turnings = 11
            pick 0 50 = 0
            tree 0 = ((10 20 30) 40 60)
            turnings = 13
            """);
        SCRIPT.play("3 deep by itself", """
            plants 0 60 20 40 30 50 10
            eat 0 50 = 1
            tree 0 = ((. 10 (. 20 (. 30 40))) 50 60)
            turnings = 12
            pick 0 50 = 1
            tree 0 = ((. 10 (20 30 .)) 40 60)
            turnings = 15
            """);
    }

    private static void broughtUpFirst() {
        SCRIPT.play("from the depth", """
            plants 0 50 40 30 20 10
            turnings = 4
            depthOf 0 50 = 4
            pick 0 50 = 0
            tree 0 = ((10 20 30) 40 .)
            turnings = 9
            """);
    }

    /** Only eating counts as a bite; the other apples keep theirs. */
    private static void answersBites() {
        SCRIPT.play("how often one ate from it", """
            plants 0 10 30 20
            eat 0 20 = 0
            eat 0 20 = 0
            eat 0 30 = 1
            pick 0 20 = 2
            eaten 0 10 = 0
            eaten 0 30 = 1
            pick 0 10 = 0
            pick 0 30 = 1
            plant 0 20 = 0
            eaten 0 20 = 0
            pick 0 20 = 0
            """);
    }

    private static void refused() {
        SCRIPT.play("no such apple", """
            pick 0 20 ! IllegalState
            plants 0 10 30 20
            plants 5 40
            pick 0 25 ! IllegalState
            pick 0 40 ! IllegalState
            pick 5 20 ! IllegalState
            pick 0 20 = 0
            pick 0 20 ! IllegalState
            pick 6 30 ! IndexOutOfBounds
            pick -1 30 ! IndexOutOfBounds
            tree 0 = (. 10 30)
            tree 5 = 40
            """);
    }
}
