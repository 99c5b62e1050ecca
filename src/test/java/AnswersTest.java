/** Promises 9 to 33: what the rows and the apples answer, on trees that are written out. */
final class AnswersTest {
    private static final Check CHECK = new Check();

    private AnswersTest() {
    }

    public static void main(String[] args) {
        shape();
        emptyRow();
        oneApple();
        leastHeights();
        sumsAndMeans();
        order();
        presence();
        neighbours();
        bites();
        meetings();
        behindABite();
        bestBite();
        bestOfSeveral();
        plantingDepth();
        plantingDepthInAFullOrchard();
        joinable();
        CHECK.end();
    }

    private static final String SAMPLE = "(. 10 ((20 30 (40 50 .)) 60 70))";

    /** An orchard whose row 2 is the tree above; its depths from 10 to 70: 0, 3, 2, 4, 3, 1, 2. */
    private static SplayOrchard sample() {
        SplayOrchard orchard = new SplayOrchard();
        for (int size = 70; size >= 10; size -= 10) {
            orchard.plant(2, size);
        }
        orchard.eat(2, 60);
        orchard.eat(2, 10);
        CHECK.sameText("the sample", Looks.tree(orchard, 2), SAMPLE);
        return orchard;
    }

    /** Promises 9 to 11 and 17. */
    private static void shape() {
        SplayOrchard x = sample();
        CHECK.same("sizeOf(2)", x.sizeOf(2), 7);
        CHECK.same("top(2)", x.top(2), 10);
        CHECK.same("height(2)", x.height(2), 5);
        CHECK.same("leaves(2)", x.leaves(2), 3);
        x.eat(2, 40);
        CHECK.same("top(2)", x.top(2), 40);
        CHECK.sameText("row 2", Looks.tree(x, 2), "((. 10 (20 30 .)) 40 (50 60 70))");
        CHECK.same("height(2)", x.height(2), 4);
        CHECK.same("leaves(2)", x.leaves(2), 3);
    }

    /** Promises 9 to 19, 26, 30, 31 and 33. */
    private static void emptyRow() {
        SplayOrchard x = sample();
        for (int row = 0; row < 6; row += 5) {
            CHECK.same("sizeOf", x.sizeOf(row), 0);
            CHECK.same("top", x.top(row), -1);
            CHECK.same("height", x.height(row), 0);
            CHECK.same("leastHeight", x.leastHeight(row), 0);
            CHECK.same("depths", x.depths(row), 0);
            CHECK.same("smallest", x.smallest(row), -1);
            CHECK.same("greatest", x.greatest(row), -1);
            CHECK.same("leaves", x.leaves(row), 0);
            CHECK.same("has", x.has(row, 10), false);
            CHECK.same("smaller", x.smaller(row, 999), 0);
            CHECK.same("favourite", x.favourite(row), -1);
            CHECK.same("bestToEat", x.bestToEat(row), -1);
            CHECK.same("plantDepth", x.plantDepth(row, 10), 0);
            CHECK.sameDouble("meanDepth", x.meanDepth(row), 0.0);
        }
    }

    private static void oneApple() {
        SplayOrchard x = new SplayOrchard();
        x.plant(5, 0);
        CHECK.same("sizeOf", x.sizeOf(5), 1);
        CHECK.same("top", x.top(5), 0);
        CHECK.same("height", x.height(5), 1);
        CHECK.same("leastHeight", x.leastHeight(5), 1);
        CHECK.same("depths", x.depths(5), 0);
        CHECK.same("smallest", x.smallest(5), 0);
        CHECK.same("greatest", x.greatest(5), 0);
        CHECK.same("inOrder", x.inOrder(5, 0), 0);
        CHECK.same("leaves", x.leaves(5), 1);
        CHECK.same("above", x.above(5, 0), -1);
        CHECK.same("below", x.below(5, 0), 0);
        CHECK.same("favourite", x.favourite(5), 0);
        CHECK.same("meet", x.meet(5, 0, 0), 0);
        CHECK.same("depthBehind", x.depthBehind(5, 0, 0), 0);
        CHECK.same("heightBehind", x.heightBehind(5, 0), 1);
        CHECK.same("bestToEat", x.bestToEat(5), 0);
        CHECK.sameDouble("meanDepth", x.meanDepth(5), 0.0);
    }

    /** Promise 12: h levels have room for 1, 3, 7, 15, 31, 63 apples. */
    private static void leastHeights() {
        SplayOrchard x = new SplayOrchard();
        for (int count = 1; count <= 40; count++) {
            x.plant(0, count);
            int due = count > 31 ? 6 : count > 15 ? 5 : count > 7 ? 4
                    : count > 3 ? 3 : count > 1 ? 2 : 1;
            CHECK.same("leastHeight(0) of " + count, x.leastHeight(0), due);
        }
    }

    /** Promises 13 and 33. */
    private static void sumsAndMeans() {
        SplayOrchard x = sample();
        CHECK.same("depths(2)", x.depths(2), 15);
        CHECK.sameDouble("meanDepth(2)", x.meanDepth(2), 15 / 7.0);
        x.plant(0, 1);
        x.plant(0, 2);
        CHECK.same("depths(0)", x.depths(0), 1);
        CHECK.sameDouble("meanDepth(0)", x.meanDepth(0), 0.5);
    }

    /** Promises 14 to 16. */
    private static void order() {
        SplayOrchard x = sample();
        CHECK.same("smallest(2)", x.smallest(2), 10);
        CHECK.same("greatest(2)", x.greatest(2), 70);
        for (int place = 0; place < 7; place++) {
            CHECK.same("inOrder(2, " + place + ")", x.inOrder(2, place), 10 + 10 * place);
        }
        Class<?> index = IndexOutOfBoundsException.class;
        CHECK.refuses("inOrder(2, 7)", x, index, () -> x.inOrder(2, 7));
        CHECK.refuses("inOrder(2, -1)", x, index, () -> x.inOrder(2, -1));
        CHECK.refuses("inOrder(0, 0)", x, index, () -> x.inOrder(0, 0));
    }

    /** Promises 18 and 19: any number will do as a size. */
    private static void presence() {
        SplayOrchard x = sample();
        CHECK.same("has(2, 40)", x.has(2, 40), true);
        CHECK.same("has(2, 10)", x.has(2, 10), true);
        CHECK.same("has(2, 45)", x.has(2, 45), false);
        CHECK.same("has(0, 40)", x.has(0, 40), false);
        CHECK.same("has(2, -1)", x.has(2, -1), false);
        CHECK.same("has(2, 1000)", x.has(2, 1000), false);
        CHECK.same("smaller(2, 40)", x.smaller(2, 40), 3);
        CHECK.same("smaller(2, 41)", x.smaller(2, 41), 4);
        CHECK.same("smaller(2, 10)", x.smaller(2, 10), 0);
        CHECK.same("smaller(2, 999)", x.smaller(2, 999), 7);
        CHECK.same("smaller(2, 2147483647)", x.smaller(2, Integer.MAX_VALUE), 7);
        CHECK.same("smaller(2, -2147483648)", x.smaller(2, Integer.MIN_VALUE), 0);
    }

    /** Promises 20 to 24. */
    private static void neighbours() {
        SplayOrchard x = sample();
        int[][] due = {
            {10, 0, -1, -1, 60, 6}, {20, 3, 30, -1, -1, 0}, {30, 2, 60, 20, 50, 3},
            {40, 4, 50, -1, -1, 0}, {50, 3, 30, 40, -1, 1}, {60, 1, 10, 30, 70, 5},
            {70, 2, 60, -1, -1, 0},
        };
        for (int[] row : due) {
            int size = row[0];
            CHECK.same("depthOf(2, " + size + ")", x.depthOf(2, size), row[1]);
            CHECK.same("above(2, " + size + ")", x.above(2, size), row[2]);
            CHECK.same("leftOf(2, " + size + ")", x.leftOf(2, size), row[3]);
            CHECK.same("rightOf(2, " + size + ")", x.rightOf(2, size), row[4]);
            CHECK.same("below(2, " + size + ")", x.below(2, size), row[5]);
        }
    }

    /** Promises 25 and 26: of several favourites the smallest, unless one is ahead. */
    private static void bites() {
        SplayOrchard x = sample();
        CHECK.same("eaten(2, 10)", x.eaten(2, 10), 1);
        CHECK.same("eaten(2, 60)", x.eaten(2, 60), 1);
        CHECK.same("eaten(2, 40)", x.eaten(2, 40), 0);
        CHECK.same("favourite(2)", x.favourite(2), 10);
        x.eat(2, 60);
        CHECK.same("eaten(2, 60)", x.eaten(2, 60), 2);
        CHECK.same("favourite(2)", x.favourite(2), 60);
        x.plant(0, 8);
        x.plant(0, 5);
        x.plant(0, 9);
        CHECK.same("favourite(0), nothing eaten", x.favourite(0), 5);
        x.split(2, 60, 1);
        CHECK.same("favourite(1)", x.favourite(1), 60);
        CHECK.same("favourite(2)", x.favourite(2), 10);
    }

    /** Promise 27. */
    private static void meetings() {
        SplayOrchard x = sample();
        int[][] due = {
            {40, 40, 40}, {40, 50, 50}, {50, 40, 50}, {40, 70, 60}, {70, 30, 60}, {20, 40, 30},
            {10, 10, 10}, {10, 70, 10}, {40, 10, 10}, {70, 60, 60}, {30, 50, 30}, {40, 20, 30},
        };
        for (int[] row : due) {
            String call = "meet(2, " + row[0] + ", " + row[1] + ")";
            CHECK.same(call, x.meet(2, row[0], row[1]), row[2]);
        }
    }

    /** Promises 28 and 29: a bite of 40 would make ((. 10 (20 30 .)) 40 (50 60 70)). */
    private static void behindABite() {
        SplayOrchard x = sample();
        long digest = x.digest();
        int[][] due = {{10, 1}, {20, 3}, {30, 2}, {40, 0}, {50, 2}, {60, 1}, {70, 2}};
        for (int[] row : due) {
            String call = "depthBehind(2, 40, " + row[0] + ")";
            CHECK.same(call, x.depthBehind(2, 40, row[0]), row[1]);
        }
        CHECK.same("depthBehind(2, 10, 40)", x.depthBehind(2, 10, 40), 4);
        CHECK.same("heightBehind(2, 40)", x.heightBehind(2, 40), 4);
        CHECK.same("heightBehind(2, 10)", x.heightBehind(2, 10), 5);
        CHECK.same("heightBehind(2, 70)", x.heightBehind(2, 70), 6);
        CHECK.same("digest()", x.digest(), digest);
        CHECK.sameText("row 2", Looks.tree(x, 2), SAMPLE);
    }

    /** Promise 30: bites from 10 to 70 would leave 15, 14, 11, 11, 12, 14 and 19 added depths. */
    private static void bestBite() {
        SplayOrchard x = sample();
        long digest = x.digest();
        CHECK.same("bestToEat(2)", x.bestToEat(2), 30);
        CHECK.same("digest()", x.digest(), digest);
        CHECK.sameText("row 2", Looks.tree(x, 2), SAMPLE);
    }

    /** Promise 30: two in a row add up to 1 whichever is eaten. */
    private static void bestOfSeveral() {
        SplayOrchard x = new SplayOrchard();
        x.plant(0, 4);
        x.plant(0, 6);
        CHECK.same("bestToEat(0)", x.bestToEat(0), 4);
        x.eat(0, 4);
        CHECK.same("bestToEat(0)", x.bestToEat(0), 4);
    }

    /** Promise 31. */
    private static void plantingDepth() {
        SplayOrchard x = sample();
        int[][] due = {
            {0, 1}, {9, 1}, {10, -1}, {11, 4}, {25, 4}, {35, 5}, {45, 5}, {40, -1}, {55, 4},
            {65, 3}, {70, -1}, {71, 3}, {999, 3},
        };
        long digest = x.digest();
        for (int[] row : due) {
            CHECK.same("plantDepth(2, " + row[0] + ")", x.plantDepth(2, row[0]), row[1]);
        }
        CHECK.same("digest()", x.digest(), digest);
        Class<?> argument = IllegalArgumentException.class;
        CHECK.refuses("plantDepth(2, -1)", x, argument, () -> x.plantDepth(2, -1));
        CHECK.refuses("plantDepth(0, 1000)", x, argument, () -> x.plantDepth(0, 1000));
        Class<?> index = IndexOutOfBoundsException.class;
        CHECK.refuses("plantDepth(6, 1000)", x, index, () -> x.plantDepth(6, 1000));
    }

    /** Promise 31 names no exception for a full orchard. */
    private static void plantingDepthInAFullOrchard() {
        SplayOrchard x = new SplayOrchard();
        for (int size = 0; size < 40; size++) {
            x.plant(0, size);
        }
        CHECK.same("plantDepth(0, 40)", x.plantDepth(0, 40), 1);
        CHECK.same("plantDepth(0, 39)", x.plantDepth(0, 39), -1);
        CHECK.same("plantDepth(1, 0)", x.plantDepth(1, 0), 0);
    }

    /** Promise 32. */
    private static void joinable() {
        SplayOrchard x = sample();
        x.plant(3, 71);
        x.plant(4, 70);
        CHECK.same("canJoin(2, 3)", x.canJoin(2, 3), true);
        CHECK.same("canJoin(3, 2)", x.canJoin(3, 2), false);
        CHECK.same("canJoin(2, 4)", x.canJoin(2, 4), false);
        CHECK.same("canJoin(2, 2)", x.canJoin(2, 2), false);
        CHECK.same("canJoin(0, 0)", x.canJoin(0, 0), false);
        CHECK.same("canJoin(0, 2)", x.canJoin(0, 2), true);
        CHECK.same("canJoin(2, 0)", x.canJoin(2, 0), true);
        CHECK.same("canJoin(0, 5)", x.canJoin(0, 5), true);
        CHECK.sameText("row 2", Looks.tree(x, 2), SAMPLE);
    }
}
