/** Promise 34, with the numbers written out. */
final class DigestTest {
    private static final Check CHECK = new Check();

    private DigestTest() {
    }

    public static void main(String[] args) {
        emptyOrchard();
        someApples();
        twiceTheSame();
        CHECK.end();
    }

    private static void emptyOrchard() {
        long due = mix(2339, 0, 0);
        for (int row = 0; row < 6; row++) {
            due = mixEmptyRow(due);
        }
        CHECK.same("digest()", new SplayOrchard().digest(), due);
    }

    /** Row 0 is (10 20 30), with one bite of 20 and two of 30; row 5 is the apple 0. */
    private static void someApples() {
        SplayOrchard x = new SplayOrchard();
        x.plant(0, 10);
        x.plant(0, 30);
        x.eat(0, 30);
        x.eat(0, 30);
        x.plant(0, 20);
        x.eat(0, 20);
        x.plant(5, 0);
        long due = mix(2339, 4, 3);
        due = mix(due, 3, 20, 2, 2, 2, 2, 30, 20);
        due = mix(due, 10, 1, 20, -1, -1, 0, 0);
        due = mix(due, 20, 0, -1, 10, 30, 2, 1);
        due = mix(due, 30, 1, 20, -1, -1, 0, 2);
        for (int row = 1; row < 5; row++) {
            due = mixEmptyRow(due);
        }
        due = mix(due, 1, 0, 1, 1, 0, 1, 0, 0);
        due = mix(due, 0, 0, -1, -1, -1, 0, 0);
        CHECK.same("digest()", x.digest(), due);
    }

    private static void twiceTheSame() {
        SplayOrchard x = new SplayOrchard();
        for (int i = 0; i < 40; i++) {
            x.plant(i % 3, i * 7 % 40);
        }
        long first = x.digest();
        CHECK.same("the second digest()", x.digest(), first);
        x.eat(0, x.top(0));
        if (x.digest() == first) {
            CHECK.complain("a bite of the top does not show in digest()");
        }
    }

    private static long mixEmptyRow(long start) {
        return mix(start, 0, -1, 0, 0, 0, 0, -1, -1);
    }

    private static long mix(long start, int... numbers) {
        long d = start;
        for (int x : numbers) {
            d = d * 31 + x;
        }
        return d;
    }
}
