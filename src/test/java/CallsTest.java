/** "An object is used for at most 512 calls": up to the last of them all answers are as due. */
final class CallsTest {
    private static final Script SCRIPT = new Script();

    private CallsTest() {
    }

    public static void main(String[] args) {
        bites();
        turnings();
        plantsAndPicks();
        splitsAndJoins();
        refusals();
        SCRIPT.end();
    }

    /** The last line takes three calls: a question stands between two of digest(). */
    private static void bites() {
        SCRIPT.play("508 bites of one apple", "plant 0 7 = 0\n"
                + "eat 0 7 = 0\n".repeat(508) + "eaten 0 7 = 508\n");
    }

    private static void turnings() {
        SCRIPT.play("507 bites of two apples in turns", "plant 0 7 = 0\nplant 0 8 = 1\n"
                + "eat 0 7 = 1\neat 0 8 = 1\n".repeat(253) + "eat 0 7 = 1\n" + "turnings = 508\n");
    }

    /** Far more than 40 apples in all, but never at once. */
    private static void plantsAndPicks() {
        SCRIPT.play("257 apples, one behind the other",
                "plant 5 999 = 0\npick 5 999 = 0\n".repeat(255)
                + "plant 5 0 = 0\nplant 5 1 = 1\n");
    }

    private static void splitsAndJoins() {
        SCRIPT.play("255 splits and joins", "plants 0 10 20\n"
                + "split 0 20 1 = 1\njoin 0 1 = 2\n".repeat(255));
    }

    /** They count as calls, too, but not as apples. */
    private static void refusals() {
        SCRIPT.play("169 refusals", "plants 0 10 20\n" + "plant 0 10 ! IllegalState\n".repeat(168)
                + "plant 0 1000 ! IllegalArgument\n" + "plant 0 30 = 1\n");
    }
}
