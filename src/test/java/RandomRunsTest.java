import java.util.Random;
import java.util.function.LongSupplier;

/**
 * Promises 1 to 34: runs of 512 calls, drawn with written seeds, answered by the class and by
 * PlainOrchard alike. Behind each call that may change something the digests are compared.
 */
final class RandomRunsTest {
    private static final Check CHECK = new Check();
    private static final int RUNS = 120;
    private static final int CALLS = 512;
    private static final int ROWS = 6;
    private static final int CHANGES = 5;
    private static final int KINDS = 33;

    private final Random random;
    private final int mostSize;
    private final int plantRows;
    private final SplayOrchard real = new SplayOrchard();
    private final PlainOrchard plain = new PlainOrchard();

    private RandomRunsTest(int seed) {
        random = new Random(seed);
        mostSize = seed % 3 == 0 ? 45 : seed % 3 == 1 ? 120 : 999;
        plantRows = 1 + seed % 5;
    }

    public static void main(String[] args) {
        for (int seed = 0; seed < RUNS; seed++) {
            new RandomRunsTest(seed).run(seed);
        }
        CHECK.end();
    }

    private void run(int seed) {
        int made = 0;
        while (made < CALLS - 1) {
            int kind = kind(made);
            int a = row(kind == 0 ? plantRows : ROWS);
            int other = kind == 4 ? partner(a) : row(ROWS);
            int b = size(a);
            int c = kind == 3 ? target() : size(a);
            String call = "seed " + seed + ", call " + made + ", kind " + kind + " of " + a + ", " + b
                    + ", " + c + ", " + other;
            String due = outcome(() -> ofPlain(kind, a, b, c, other));
            CHECK.sameText(call, outcome(() -> ofReal(kind, a, b, c, other)), due);
            made++;
            if (kind < CHANGES) {
                CHECK.same(call + ", then digest()", real.digest(), plain.digest());
                made++;
            }
        }
    }

    /** Many plants at first, so that the rows fill. */
    private int kind(int made) {
        int draw = random.nextInt(10);
        if (draw < (made < 150 ? 6 : 1)) {
            return 0;
        }
        return draw < 6 ? random.nextInt(CHANGES) : random.nextInt(KINDS);
    }

    private int row(int below) {
        if (random.nextInt(40) == 0) {
            int[] outside = {-1, 6, Integer.MIN_VALUE, Integer.MAX_VALUE};
            return outside[random.nextInt(outside.length)];
        }
        return random.nextInt(below);
    }

    /** A row to join with: mostly one that this can be joined with, as a drawn one seldom is. */
    private int partner(int first) {
        for (int row = 0; row < ROWS && random.nextInt(8) > 0; row++) {
            boolean asked = first >= 0 && first < ROWS && plain.sizeOf(row) > 0;
            if (asked && plain.canJoin(first, row)) {
                return row;
            }
        }
        return row(ROWS);
    }

    /** A row to split into: mostly an empty one, as a drawn one seldom is. */
    private int target() {
        for (int row = 0; row < ROWS && random.nextInt(8) > 0; row++) {
            if (plain.sizeOf(row) == 0) {
                return row;
            }
        }
        return row(ROWS);
    }

    /** Mostly that of an apple which is there. */
    private int size(int row) {
        int draw = random.nextInt(40);
        if (draw == 0) {
            int[] edges = {-1, 0, 999, 1000, Integer.MIN_VALUE, Integer.MAX_VALUE};
            return edges[random.nextInt(edges.length)];
        }
        if (draw < 22 && row >= 0 && row < 6 && plain.sizeOf(row) > 0) {
            return plain.inOrder(row, random.nextInt(plain.sizeOf(row)));
        }
        return random.nextInt(mostSize + 1);
    }

    private static String outcome(LongSupplier call) {
        try {
            return String.valueOf(call.getAsLong());
        } catch (RuntimeException e) {
            return "throws." + e.getClass().getSimpleName();
        }
    }

    private static long bit(boolean answer) {
        return answer ? 1 : 0;
    }

    private long ofReal(int kind, int a, int b, int c, int other) {
        switch (kind) {
            case 0: return real.plant(a, b);
            case 1: return real.eat(a, b);
            case 2: return real.pick(a, b);
            case 3: return real.split(a, b, c);
            case 4: return real.join(a, other);
            case 5: return real.apples();
            case 6: return real.turnings();
            case 7: return real.sizeOf(a);
            case 8: return real.top(a);
            case 9: return real.height(a);
            case 10: return real.leastHeight(a);
            case 11: return real.depths(a);
            case 12: return real.smallest(a);
            case 13: return real.greatest(a);
            case 14: return real.inOrder(a, b % 12);
            case 15: return real.leaves(a);
            case 16: return bit(real.has(a, b));
            case 17: return real.smaller(a, b);
            case 18: return real.depthOf(a, b);
            case 19: return real.above(a, b);
            case 20: return real.leftOf(a, b);
            case 21: return real.rightOf(a, b);
            case 22: return real.below(a, b);
            case 23: return real.eaten(a, b);
            case 24: return real.favourite(a);
            case 25: return real.meet(a, b, c);
            case 26: return real.depthBehind(a, b, c);
            case 27: return real.heightBehind(a, b);
            case 28: return real.bestToEat(a);
            case 29: return real.plantDepth(a, b);
            case 30: return bit(real.canJoin(a, other));
            case 31: return Double.doubleToLongBits(real.meanDepth(a));
            default: return real.digest();
        }
    }

    private long ofPlain(int kind, int a, int b, int c, int other) {
        switch (kind) {
            case 0: return plain.plant(a, b);
            case 1: return plain.eat(a, b);
            case 2: return plain.pick(a, b);
            case 3: return plain.split(a, b, c);
            case 4: return plain.join(a, other);
            case 5: return plain.apples();
            case 6: return plain.turnings();
            case 7: return plain.sizeOf(a);
            case 8: return plain.top(a);
            case 9: return plain.height(a);
            case 10: return plain.leastHeight(a);
            case 11: return plain.depths(a);
            case 12: return plain.smallest(a);
            case 13: return plain.greatest(a);
            case 14: return plain.inOrder(a, b % 12);
            case 15: return plain.leaves(a);
            case 16: return bit(plain.has(a, b));
            case 17: return plain.smaller(a, b);
            case 18: return plain.depthOf(a, b);
            case 19: return plain.above(a, b);
            case 20: return plain.leftOf(a, b);
            case 21: return plain.rightOf(a, b);
            case 22: return plain.below(a, b);
            case 23: return plain.eaten(a, b);
            case 24: return plain.favourite(a);
            case 25: return plain.meet(a, b, c);
            case 26: return plain.depthBehind(a, b, c);
            case 27: return plain.heightBehind(a, b);
            case 28: return plain.bestToEat(a);
            case 29: return plain.plantDepth(a, b);
            case 30: return bit(plain.canJoin(a, other));
            case 31: return Double.doubleToLongBits(plain.meanDepth(a));
            default: return plain.digest();
        }
    }
}
