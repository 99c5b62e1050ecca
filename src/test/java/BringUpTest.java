/** How an apple is turned and brought up: at the top, right below it, and deeper. */
final class BringUpTest {
    private static final Script SCRIPT = new Script();

    private BringUpTest() {
    }

    public static void main(String[] args) {
        atTheTop();
        rightBelowTheTop();
        deeperOnTheSameSide();
        deeperOnDifferentSides();
        oddDepths();
        evenDepths();
        plantingBringsUpToo();
        refusedBitesBringUpNothing();
        SCRIPT.end();
    }

    private static void atTheTop() {
        SCRIPT.play("the top is turned no more", """
            plants 0 10 30 20
            turnings = 3
            tree 0 = (10 20 30)
            eat 0 20 = 0
            tree 0 = (10 20 30)
            turnings = 3
            """);
    }

    /** What hung between both changes its place, on the left and "likewise the other way round". */
    private static void rightBelowTheTop() {
        SCRIPT.play("right below the top", """
            plants 0 50 10 30 20 40
            tree 0 = ((10 20 30) 40 50)
            turnings = 8
            eat 0 20 = 1
            tree 0 = (10 20 (30 40 50))
            turnings = 9
            eat 0 40 = 1
            tree 0 = ((10 20 30) 40 50)
            turnings = 10
            """);
    }

    /** First the one right above it is turned, then it. */
    private static void deeperOnTheSameSide() {
        SCRIPT.play("left and left, then right and right", """
            plants 0 50 70 30 20 10 40 60
            tree 0 = (((10 20 30) 40 50) 60 70)
            turnings = 12
            eat 0 20 = 2
            tree 0 = (10 20 (30 40 (50 60 70)))
            turnings = 14
            eat 0 60 = 2
            tree 0 = (((10 20 30) 40 50) 60 70)
            turnings = 16
            """);
    }

    /** It is turned twice. */
    private static void deeperOnDifferentSides() {
        SCRIPT.play("left, then right", """
            plants 0 40 70 50 30 10 20 60
            tree 0 = ((10 20 (30 40 50)) 60 70)
            turnings = 13
            eat 0 40 = 2
            tree 0 = ((10 20 30) 40 (50 60 70))
            turnings = 15
            """);
        SCRIPT.play("right, then left", """
            plants 0 40 30 10 60 50 70 20
            tree 0 = (10 20 ((30 40 50) 60 70))
            turnings = 16
            eat 0 40 = 2
            tree 0 = ((10 20 30) 40 (50 60 70))
            turnings = 18
            """);
    }

    /** The single turning comes last, at the top. */
    private static void oddDepths() {
        SCRIPT.play("three deep on the left", """
            plants 0 10 20 30 40
            tree 0 = (((10 20 .) 30 .) 40 .)
            eat 0 10 = 3
            tree 0 = (. 10 ((. 20 30) 40 .))
            turnings = 6
            """);
        SCRIPT.play("three deep on the right", """
            plants 0 40 30 20 10
            tree 0 = (. 10 (. 20 (. 30 40)))
            eat 0 40 = 3
            tree 0 = ((. 10 (20 30 .)) 40 .)
            turnings = 6
            """);
        SCRIPT.play("three deep to and fro", """
            plants 0 30 10 40 20
            eat 0 10 = 1
            tree 0 = (. 10 (. 20 (30 40 .)))
            eat 0 30 = 3
            tree 0 = ((. 10 20) 30 40)
            """);
    }

    private static void evenDepths() {
        SCRIPT.play("four deep on the left", """
            plants 0 10 20 30 40 50
            eat 0 10 = 4
            tree 0 = (. 10 ((. 20 30) 40 50))
            turnings = 8
            """);
        SCRIPT.play("four deep on the right", """
            plants 0 50 40 30 20 10
            eat 0 50 = 4
            tree 0 = ((10 20 (30 40 .)) 50 .)
            turnings = 8
            """);
    }

    private static void plantingBringsUpToo() {
        SCRIPT.play("planting brings up as eating does", """
            plant 0 50 = 0
            plant 0 10 = 1
            tree 0 = (. 10 50)
            plant 0 30 = 2
            tree 0 = (10 30 50)
            plant 0 20 = 2
            tree 0 = (10 20 (. 30 50))
            plant 0 40 = 3
            tree 0 = ((10 20 30) 40 50)
            plant 0 60 = 2
            tree 0 = ((((10 20 30) 40 .) 50 .) 60 .)
            turnings = 10
            """);
    }

    /** Not even the last one on the way to an apple that is not there. */
    private static void refusedBitesBringUpNothing() {
        SCRIPT.play("no such apple", """
            eat 0 20 ! IllegalState
            plants 0 50 10 30 20 40
            plants 5 35
            eat 0 5 ! IllegalState
            eat 0 15 ! IllegalState
            eat 0 25 ! IllegalState
            eat 0 35 ! IllegalState
            eat 0 45 ! IllegalState
            eat 0 55 ! IllegalState
            eat 5 30 ! IllegalState
            eat 1 30 ! IllegalState
            eat 6 30 ! IndexOutOfBounds
            eat -1 30 ! IndexOutOfBounds
            turnings = 8
            tree 0 = ((10 20 30) 40 50)
            tree 5 = 35
            eaten 0 30 = 0
            """);
    }
}
