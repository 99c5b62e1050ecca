/** Promise 5: where a row is split, and into which one. */
final class SplitTest {
    private static final Script SCRIPT = new Script();

    private SplitTest() {
    }

    public static void main(String[] args) {
        belowTheSmallest();
        atTheSmallest();
        rightAboveTheSmallest();
        atASizeThatIsThere();
        atASizeThatIsNotThere();
        atTheGreatest();
        aboveTheGreatest();
        oneApple();
        anEmptyRow();
        intoTheSameRow();
        intoOneThatIsNotEmpty();
        bitesGoAlong();
        thereAndBack();
        SCRIPT.end();
    }

    /** "if there is none, the whole tree does", as it hangs. */
    private static void belowTheSmallest() {
        SCRIPT.play("below the smallest", """
            plants 0 30 20 40 10
            turnings = 6
            split 0 9 5 = 4
            tree 0 = .
            tree 5 = (. 10 ((. 20 30) 40 .))
            turnings = 6
            split 5 0 0 = 4
            tree 5 = .
            tree 0 = (. 10 ((. 20 30) 40 .))
            turnings = 6
            """);
    }

    /** The smallest itself is not smaller. */
    private static void atTheSmallest() {
        SCRIPT.play("at the smallest", """
            plants 0 10 20 30 40
            turnings = 3
            split 0 10 1 = 4
            tree 0 = .
            tree 1 = (((10 20 .) 30 .) 40 .)
            turnings = 3
            """);
    }

    private static void rightAboveTheSmallest() {
        SCRIPT.play("right above the smallest", """
            plants 0 10 20 30 40
            split 0 11 1 = 3
            tree 0 = 10
            tree 1 = ((. 20 30) 40 .)
            turnings = 6
            """);
    }

    /** The apple of the size goes; the greatest smaller one is brought up and stays. */
    private static void atASizeThatIsThere() {
        SCRIPT.play("at a size that is there", """
            plants 0 50 70 30 20 10 40 60
            tree 0 = (((10 20 30) 40 50) 60 70)
            turnings = 12
            split 0 50 5 = 3
            tree 0 = ((10 20 30) 40 .)
            tree 5 = (50 60 70)
            turnings = 13
            split 0 20 1 = 3
            tree 0 = 10
            tree 1 = (. 20 (30 40 .))
            turnings = 15
            """);
    }

    private static void atASizeThatIsNotThere() {
        SCRIPT.play("between two", """
            plants 0 50 70 30 20 10 40 60
            split 0 41 5 = 3
            tree 0 = ((10 20 30) 40 .)
            tree 5 = (50 60 70)
            turnings = 13
            """);
        SCRIPT.play("right above one that is there", """
            plants 0 50 70 30 20 10 40 60
            split 0 51 5 = 2
            tree 0 = (((10 20 30) 40 .) 50 .)
            tree 5 = (. 60 70)
            turnings = 14
            """);
    }

    private static void atTheGreatest() {
        SCRIPT.play("at the greatest", """
            plants 0 40 30 20 10
            split 0 40 1 = 1
            tree 0 = ((10 20 .) 30 .)
            tree 1 = 40
            turnings = 5
            """);
    }

    /** Nothing goes, and the greatest one is brought up. */
    private static void aboveTheGreatest() {
        SCRIPT.play("above the greatest", """
            plants 0 40 30 20 10
            split 0 41 1 = 0
            tree 0 = ((. 10 (20 30 .)) 40 .)
            tree 1 = .
            turnings = 6
            split 0 999 1 = 0
            turnings = 6
            """);
    }

    private static void oneApple() {
        SCRIPT.play("a row with one apple", """
            plant 0 20 = 0
            split 0 21 1 = 0
            tree 0 = 20
            tree 1 = .
            split 0 20 1 = 1
            tree 0 = .
            tree 1 = 20
            split 1 19 0 = 1
            tree 0 = 20
            tree 1 = .
            turnings = 0
            """);
    }

    private static void anEmptyRow() {
        SCRIPT.play("an empty row", """
            plants 4 10 20
            split 0 0 1 = 0
            split 0 20 1 = 0
            split 0 999 1 = 0
            split 0 20 4 ! IllegalState
            split 0 20 0 ! IllegalState
            tree 0 = .
            tree 1 = .
            tree 4 = (10 20 .)
            """);
    }

    /** Whether anything would go or not. */
    private static void intoTheSameRow() {
        SCRIPT.play("into the same row", """
            plants 0 30 20 10
            split 0 20 0 ! IllegalState
            split 0 0 0 ! IllegalState
            split 0 999 0 ! IllegalState
            split 5 20 5 ! IllegalState
            tree 0 = (. 10 (. 20 30))
            turnings = 2
            """);
    }

    /** Whether anything would go or not, and whatever hangs in the other one. */
    private static void intoOneThatIsNotEmpty() {
        SCRIPT.play("into one that is not empty", """
            plants 0 30 20 10
            plants 1 500
            plants 5 0 1
            split 0 20 1 ! IllegalState
            split 0 0 1 ! IllegalState
            split 0 999 1 ! IllegalState
            split 0 20 5 ! IllegalState
            split 2 20 1 ! IllegalState
            tree 0 = (. 10 (. 20 30))
            tree 1 = 500
            pick 1 500 = 0
            split 0 20 1 = 2
            tree 1 = (. 20 30)
            """);
    }

    private static void bitesGoAlong() {
        SCRIPT.play("bites go along, and a split is none", """
            plants 0 10 20 30 40
            eat 0 20 = 2
            eat 0 30 = 1
            eat 0 30 = 0
            split 0 30 5 = 2
            eaten 0 10 = 0
            eaten 0 20 = 1
            eaten 5 30 = 2
            eaten 5 40 = 0
            favourite 0 = 20
            favourite 5 = 30
            eaten 0 30 ! IllegalState
            apples = 4
            """);
    }

    private static void thereAndBack() {
        SCRIPT.play("there and back", """
            plants 0 10 20 30 40
            split 0 30 1 = 2
            tree 0 = (10 20 .)
            tree 1 = (. 30 40)
            join 0 1 = 4
            tree 0 = (10 20 (. 30 40))
            split 0 30 1 = 2
            plant 0 35 = 1
            plant 1 15 = 1
            join 0 1 ! IllegalState
            join 1 0 ! IllegalState
            """);
    }
}
