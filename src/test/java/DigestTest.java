import java.math.BigInteger;

/** Promise 34, with the numbers written out; and that it wraps around as a 64-bit integer. */
final class DigestTest {
    private static final Check CHECK = new Check();
    private static final BigInteger START = BigInteger.valueOf(2339);
    /** Reckoned outside Java. */
    private static final long EMPTY = 5320231379616240925L;

    private DigestTest() {
    }

    public static void main(String[] args) {
        emptyOrchard();
        someApples();
        aFullRow();
        bothSigns();
        refusedCallsBetween();
        eachChangeShows();
        CHECK.end();
    }

    private static void emptyOrchard() {
        BigInteger d = mix(START, 0, 0);
        for (int row = 0; row < 6; row++) {
            d = mixEmptyRow(d);
        }
        due("of an empty orchard", new SplayOrchard(), d);
        CHECK.same("the first digest()", new SplayOrchard().digest(), EMPTY);
    }

    /** Row 0 is (10 20 30), with one bite of 20 and two of 30; row 5 is the apple 0. */
    private static void someApples() {
        SplayOrchard x = new SplayOrchard();
        x.plant(0, 10);
        x.plant(0, 30);
        x.eat(0, 30);
        x.eat(0, 30);
        x.plant(0, 20);
        x.eat(0, 20);
        x.plant(5, 0);
        BigInteger d = mix(START, 4, 3);
        d = mix(d, 3, 20, 2, 2, 2, 2, 30, 20);
        d = mix(d, 10, 1, 20, -1, -1, 0, 0);
        d = mix(d, 20, 0, -1, 10, 30, 2, 1);
        d = mix(d, 30, 1, 20, -1, -1, 0, 2);
        for (int row = 1; row < 5; row++) {
            d = mixEmptyRow(d);
        }
        d = mix(d, 1, 0, 1, 1, 0, 1, 0, 0);
        d = mix(d, 0, 0, -1, -1, -1, 0, 0);
        due("of four apples", x, d);
    }

    /** 40 apples in a chain to the left, in row 3; a bite of 973 would leave 286 added depths. */
    private static void aFullRow() {
        SplayOrchard x = new SplayOrchard();
        for (int size = 960; size < 1000; size++) {
            x.plant(3, size);
        }
        BigInteger d = mix(START, 40, 39);
        for (int row = 0; row < 3; row++) {
            d = mixEmptyRow(d);
        }
        d = mix(d, 40, 999, 40, 6, 780, 1, 960, 973);
        for (int size = 960; size < 1000; size++) {
            int above = size == 999 ? -1 : size + 1;
            int left = size == 960 ? -1 : size - 1;
            d = mix(d, size, 999 - size, above, left, -1, size - 960, 0);
        }
        for (int row = 4; row < 6; row++) {
            d = mixEmptyRow(d);
        }
        due("of a full row", x, d);
    }

    /** Of 32 orchards some answer a number below 0, and some above: nothing is cut off. */
    private static void bothSigns() {
        int below = 0;
        SplayOrchard x = new SplayOrchard();
        for (int size = 0; size < 32; size++) {
            x.plant(0, size);
            below += x.digest() < 0 ? 1 : 0;
        }
        if (below == 0 || below == 32) {
            CHECK.complain(below + " of 32 checksums are below 0");
        }
    }

    private static void refusedCallsBetween() {
        SplayOrchard x = new SplayOrchard();
        for (int i = 0; i < 40; i++) {
            x.plant(i % 3, i * 7 % 40);
        }
        long first = x.digest();
        CHECK.same("the second digest()", x.digest(), first);
        Class<?> state = IllegalStateException.class;
        Class<?> argument = IllegalArgumentException.class;
        CHECK.refuses("plant", x, state, () -> x.plant(0, 500));
        CHECK.refuses("plant", x, argument, () -> x.plant(0, 1000));
        CHECK.refuses("eat", x, state, () -> x.eat(0, 500));
        CHECK.refuses("pick", x, state, () -> x.pick(0, 500));
        CHECK.refuses("split", x, state, () -> x.split(0, 20, 1));
        CHECK.refuses("split", x, argument, () -> x.split(0, -1, 3));
        CHECK.refuses("join", x, state, () -> x.join(0, 1));
        CHECK.refuses("depthBehind", x, state, () -> x.depthBehind(0, x.smallest(0), 500));
        CHECK.refuses("inOrder", x, IndexOutOfBoundsException.class, () -> x.inOrder(0, 14));
        CHECK.same("the last digest()", x.digest(), first);
    }

    /** A bite of the top, which turns nothing, and a row that is another one. */
    private static void eachChangeShows() {
        SplayOrchard x = new SplayOrchard();
        x.plant(0, 10);
        long first = x.digest();
        x.eat(0, 10);
        long second = x.digest();
        x.join(1, 0);
        long third = x.digest();
        if (first == second || second == third || first == third) {
            CHECK.complain("a change does not show in digest()");
        }
    }

    private static void due(String what, SplayOrchard orchard, BigInteger unbounded) {
        if (unbounded.bitLength() <= 64) {
            CHECK.complain("the checksum " + what + " would not wrap around");
        }
        CHECK.same("digest() " + what, orchard.digest(), unbounded.longValue());
    }

    private static BigInteger mixEmptyRow(BigInteger start) {
        return mix(start, 0, -1, 0, 0, 0, 0, -1, -1);
    }

    /** Without wrapping around: the last 64 bits of the end are the checksum. */
    private static BigInteger mix(BigInteger start, int... numbers) {
        BigInteger d = start;
        for (int x : numbers) {
            d = d.multiply(BigInteger.valueOf(31)).add(BigInteger.valueOf(x));
        }
        return d;
    }
}
