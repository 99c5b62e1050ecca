/** What each call throws that only asks, and that it leaves all as it was. */
final class RefusalsTest {
    private static final Check CHECK = new Check();
    private static final int[] NO_ROWS = {-1, 6, 7, 1000, Integer.MIN_VALUE, Integer.MAX_VALUE};
    private static final int[] NO_APPLES = {15, -1, 1000, Integer.MIN_VALUE, Integer.MAX_VALUE};

    private RefusalsTest() {
    }

    public static void main(String[] args) {
        for (int row : NO_ROWS) {
            rowsAskedOutside(row);
            applesAskedOutside(row);
            changesOutside(row);
        }
        for (int size : NO_APPLES) {
            applesThatAreNotThere(0, size);
        }
        applesThatAreNotThere(1, 10);
        sizesOutside();
        CHECK.end();
    }

    private static SplayOrchard some() {
        SplayOrchard orchard = new SplayOrchard();
        for (int size = 40; size >= 10; size -= 10) {
            orchard.plant(0, size);
            orchard.eat(0, size);
        }
        orchard.plant(5, 99);
        return orchard;
    }

    /** Promises 9 to 17, 26, 30, 32 and 33. */
    private static void rowsAskedOutside(int row) {
        SplayOrchard x = some();
        Class<?> due = IndexOutOfBoundsException.class;
        CHECK.refuses("sizeOf " + row, x, due, () -> x.sizeOf(row));
        CHECK.refuses("top " + row, x, due, () -> x.top(row));
        CHECK.refuses("height " + row, x, due, () -> x.height(row));
        CHECK.refuses("leastHeight " + row, x, due, () -> x.leastHeight(row));
        CHECK.refuses("depths " + row, x, due, () -> x.depths(row));
        CHECK.refuses("smallest " + row, x, due, () -> x.smallest(row));
        CHECK.refuses("greatest " + row, x, due, () -> x.greatest(row));
        CHECK.refuses("inOrder " + row, x, due, () -> x.inOrder(row, 0));
        CHECK.refuses("leaves " + row, x, due, () -> x.leaves(row));
        CHECK.refuses("favourite " + row, x, due, () -> x.favourite(row));
        CHECK.refuses("bestToEat " + row, x, due, () -> x.bestToEat(row));
        CHECK.refuses("canJoin " + row, x, due, () -> x.canJoin(row, 0));
        CHECK.refuses("canJoin 0 and " + row, x, due, () -> x.canJoin(0, row));
        CHECK.refuses("canJoin twice " + row, x, due, () -> x.canJoin(row, row));
        CHECK.refuses("meanDepth " + row, x, due, () -> x.meanDepth(row));
        for (int place : new int[] {4, -1, Integer.MIN_VALUE, Integer.MAX_VALUE}) {
            CHECK.refuses("inOrder place " + place, x, due, () -> x.inOrder(0, place));
        }
    }

    /** Promises 18 to 25, 27 to 29 and 31: a missing row comes before a missing apple. */
    private static void applesAskedOutside(int row) {
        SplayOrchard x = some();
        Class<?> due = IndexOutOfBoundsException.class;
        for (int size : new int[] {10, 15, -1}) {
            CHECK.refuses("has " + row, x, due, () -> x.has(row, size));
            CHECK.refuses("smaller " + row, x, due, () -> x.smaller(row, size));
            CHECK.refuses("depthOf " + row, x, due, () -> x.depthOf(row, size));
            CHECK.refuses("above " + row, x, due, () -> x.above(row, size));
            CHECK.refuses("leftOf " + row, x, due, () -> x.leftOf(row, size));
            CHECK.refuses("rightOf " + row, x, due, () -> x.rightOf(row, size));
            CHECK.refuses("below " + row, x, due, () -> x.below(row, size));
            CHECK.refuses("eaten " + row, x, due, () -> x.eaten(row, size));
            CHECK.refuses("meet " + row, x, due, () -> x.meet(row, size, 20));
            CHECK.refuses("depthBehind " + row, x, due, () -> x.depthBehind(row, size, 20));
            CHECK.refuses("heightBehind " + row, x, due, () -> x.heightBehind(row, size));
            CHECK.refuses("plantDepth " + row, x, due, () -> x.plantDepth(row, size));
        }
    }

    /** Promises 2 to 6: a missing row comes before all else. */
    private static void changesOutside(int row) {
        SplayOrchard x = some();
        Class<?> due = IndexOutOfBoundsException.class;
        for (int size : new int[] {10, 15, -1, 1000}) {
            CHECK.refuses("plant " + row, x, due, () -> x.plant(row, size));
            CHECK.refuses("eat " + row, x, due, () -> x.eat(row, size));
            CHECK.refuses("pick " + row, x, due, () -> x.pick(row, size));
            CHECK.refuses("split of " + row, x, due, () -> x.split(row, size, 1));
            CHECK.refuses("split into " + row, x, due, () -> x.split(0, size, row));
            CHECK.refuses("split twice " + row, x, due, () -> x.split(row, size, row));
        }
        CHECK.refuses("join of " + row, x, due, () -> x.join(row, 0));
        CHECK.refuses("join with " + row, x, due, () -> x.join(0, row));
        CHECK.refuses("join twice " + row, x, due, () -> x.join(row, row));
    }

    /** Promises 3, 4, 20 to 25 and 27 to 29. */
    private static void applesThatAreNotThere(int row, int size) {
        SplayOrchard x = some();
        Class<?> due = IllegalStateException.class;
        CHECK.refuses("eat " + size, x, due, () -> x.eat(row, size));
        CHECK.refuses("pick " + size, x, due, () -> x.pick(row, size));
        CHECK.refuses("depthOf " + size, x, due, () -> x.depthOf(row, size));
        CHECK.refuses("above " + size, x, due, () -> x.above(row, size));
        CHECK.refuses("leftOf " + size, x, due, () -> x.leftOf(row, size));
        CHECK.refuses("rightOf " + size, x, due, () -> x.rightOf(row, size));
        CHECK.refuses("below " + size, x, due, () -> x.below(row, size));
        CHECK.refuses("eaten " + size, x, due, () -> x.eaten(row, size));
        CHECK.refuses("meet " + size + " and 20", x, due, () -> x.meet(row, size, 20));
        CHECK.refuses("meet 20 and " + size, x, due, () -> x.meet(row, 20, size));
        CHECK.refuses("meet twice " + size, x, due, () -> x.meet(row, size, size));
        CHECK.refuses("depthBehind " + size, x, due, () -> x.depthBehind(row, size, 20));
        CHECK.refuses("depthBehind 20, " + size, x, due, () -> x.depthBehind(row, 20, size));
        CHECK.refuses("depthBehind twice " + size, x, due, () -> x.depthBehind(row, size, size));
        CHECK.refuses("heightBehind " + size, x, due, () -> x.heightBehind(row, size));
    }

    /** Promises 2, 5 and 31. */
    private static void sizesOutside() {
        SplayOrchard x = some();
        Class<?> due = IllegalArgumentException.class;
        for (int size : new int[] {-1, 1000, Integer.MIN_VALUE, Integer.MAX_VALUE}) {
            CHECK.refuses("plant " + size, x, due, () -> x.plant(0, size));
            CHECK.refuses("split at " + size, x, due, () -> x.split(0, size, 1));
            CHECK.refuses("split at " + size + ", full", x, due, () -> x.split(0, size, 5));
            CHECK.refuses("plantDepth " + size, x, due, () -> x.plantDepth(0, size));
        }
    }
}
