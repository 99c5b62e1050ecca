/** Promise 8: the turnings of 512 calls are counted to the last, far more than there are calls. */
final class TurningsTest {
    private static final Check CHECK = new Check();
    private static final int APPLES = 40;
    private static final int BITES = 471;

    private TurningsTest() {
    }

    public static void main(String[] args) {
        manyTurnings();
        CHECK.end();
    }

    /** Every seventh apple, round and round; the numbers were reckoned outside Java. */
    private static void manyTurnings() {
        SplayOrchard x = new SplayOrchard();
        int depths = 0;
        for (int size = 0; size < APPLES; size++) {
            depths += x.plant(0, size);
        }
        CHECK.same("the depths that plant() answers", depths, 39);
        for (int i = 0; i < BITES; i++) {
            depths += x.eat(0, i * 7 % APPLES);
        }
        CHECK.same("the depths that plant() and eat() answer", depths, 3380);
        CHECK.same("turnings()", x.turnings(), 3380);
    }
}
