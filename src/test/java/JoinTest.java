/** Promises 6 and 32: which rows are joined, and that canJoin() says the same beforehand. */
final class JoinTest {
    private static final Script SCRIPT = new Script();

    private JoinTest() {
    }

    public static void main(String[] args) {
        withItself();
        withAnEmptyOne();
        anEmptyOneWithAnother();
        twoEmptyOnes();
        oneAppleEach();
        sizesThatTouch();
        sizesThatOverlap();
        theOtherWayRound();
        inTheOutermostRows();
        theGreatestIsBroughtUp();
        theOtherOneIsEmptyThen();
        bitesGoAlong();
        SCRIPT.end();
    }

    private static void withItself() {
        SCRIPT.play("a row with itself", """
            canJoin 0 0 = false
            join 0 0 ! IllegalState
            canJoin 5 5 = false
            join 5 5 ! IllegalState
            plants 0 30 20 10
            plants 5 20
            canJoin 0 0 = false
            join 0 0 ! IllegalState
            canJoin 5 5 = false
            join 5 5 ! IllegalState
            tree 0 = (. 10 (. 20 30))
            tree 5 = 20
            """);
    }

    /** Nothing comes, and the greatest one is brought up. */
    private static void withAnEmptyOne() {
        SCRIPT.play("a row with an empty one", """
            plants 0 30 20 10
            canJoin 0 5 = true
            join 0 5 = 3
            tree 0 = ((10 20 .) 30 .)
            tree 5 = .
            turnings = 4
            canJoin 0 5 = true
            join 0 5 = 3
            turnings = 4
            """);
    }

    /** "if the first one is empty, it gets the tree of the other one, as it hangs" */
    private static void anEmptyOneWithAnother() {
        SCRIPT.play("an empty one with a row", """
            plants 0 30 20 40 10
            turnings = 6
            canJoin 5 0 = true
            join 5 0 = 4
            tree 0 = .
            tree 5 = (. 10 ((. 20 30) 40 .))
            turnings = 6
            """);
    }

    private static void twoEmptyOnes() {
        SCRIPT.play("two empty ones", """
            canJoin 0 5 = true
            join 0 5 = 0
            canJoin 5 0 = true
            join 5 0 = 0
            tree 0 = .
            tree 5 = .
            apples = 0
            turnings = 0
            """);
    }

    private static void oneAppleEach() {
        SCRIPT.play("one apple each", """
            plants 0 0
            plants 5 999
            canJoin 5 0 = false
            join 5 0 ! IllegalState
            canJoin 0 5 = true
            join 0 5 = 2
            tree 0 = (. 0 999)
            tree 5 = .
            turnings = 0
            """);
    }

    /** The same size in both is refused, the next one not. */
    private static void sizesThatTouch() {
        SCRIPT.play("sizes that touch", """
            plants 0 10 20
            plants 1 30 20
            canJoin 0 1 = false
            join 0 1 ! IllegalState
            canJoin 1 0 = false
            join 1 0 ! IllegalState
            pick 1 20 = 0
            plant 1 21 = 1
            canJoin 0 1 = true
            join 0 1 = 4
            tree 0 = (10 20 (. 21 30))
            """);
        SCRIPT.play("the same size, one apple each", """
            plants 0 20
            plants 1 20
            plants 2 19
            plants 3 21
            canJoin 0 1 = false
            join 0 1 ! IllegalState
            canJoin 0 2 = false
            join 0 2 ! IllegalState
            canJoin 3 0 = false
            join 3 0 ! IllegalState
            canJoin 2 0 = true
            join 2 0 = 2
            canJoin 2 3 = true
            join 2 3 = 3
            tree 2 = (19 20 21)
            """);
    }

    /** One within the other, in turns, and overlapping at one end alone. */
    private static void sizesThatOverlap() {
        SCRIPT.play("sizes that overlap", """
            plants 0 10 50
            plants 1 20 40
            plants 2 30 60
            plants 3 5 11
            canJoin 0 1 = false
            join 0 1 ! IllegalState
            canJoin 1 0 = false
            join 1 0 ! IllegalState
            canJoin 0 2 = false
            join 0 2 ! IllegalState
            canJoin 2 0 = false
            join 2 0 ! IllegalState
            canJoin 3 0 = false
            join 3 0 ! IllegalState
            canJoin 0 3 = false
            join 0 3 ! IllegalState
            canJoin 3 1 = true
            join 3 1 = 4
            tree 3 = (5 11 (20 40 .))
            """);
    }

    /** All of the first one are greater. */
    private static void theOtherWayRound() {
        SCRIPT.play("the greater ones first", """
            plants 0 30 40
            plants 1 10 20
            canJoin 0 1 = false
            join 0 1 ! IllegalState
            canJoin 1 0 = true
            join 1 0 = 4
            tree 1 = (10 20 (30 40 .))
            tree 0 = .
            """);
    }

    private static void inTheOutermostRows() {
        SCRIPT.play("rows 0 and 5", """
            plants 5 10 20
            plants 0 30 40
            canJoin 5 0 = true
            join 5 0 = 4
            tree 5 = (10 20 (30 40 .))
            tree 0 = .
            """);
    }

    /** Of the first one the greatest, of the other one nothing. */
    private static void theGreatestIsBroughtUp() {
        SCRIPT.play("the greatest is brought up", """
            plants 0 30 20 10
            plants 1 60 50 40
            tree 0 = (. 10 (. 20 30))
            tree 1 = (. 40 (. 50 60))
            turnings = 4
            join 0 1 = 6
            tree 0 = ((10 20 .) 30 (. 40 (. 50 60)))
            turnings = 6
            """);
    }

    private static void theOtherOneIsEmptyThen() {
        SCRIPT.play("the other one is empty then", """
            plants 0 10
            plants 1 20
            join 0 1 = 2
            sizeOf 1 = 0
            top 1 = -1
            has 1 20 = false
            apples = 2
            plant 1 20 = 0
            apples = 3
            tree 0 = (. 10 20)
            split 0 20 2 = 1
            join 0 2 = 2
            join 2 0 = 2
            join 2 0 = 2
            """);
    }

    private static void bitesGoAlong() {
        SCRIPT.play("bites go along, and a join is none", """
            plants 0 10 20
            plants 1 30 40
            eat 0 10 = 1
            eat 1 40 = 0
            eat 1 40 = 0
            join 0 1 = 4
            eaten 0 10 = 1
            eaten 0 20 = 0
            eaten 0 30 = 0
            eaten 0 40 = 2
            favourite 0 = 40
            favourite 1 = -1
            """);
    }
}
