/** Promises 1 to 8: planting, eating, picking, splitting and joining. */
final class ApplesTest {
    private static final Check CHECK = new Check();

    private ApplesTest() {
    }

    public static void main(String[] args) {
        newObject();
        plantTurnsOnce();
        plantTurnsTwice();
        plantAtTheEdges();
        plantUpTo40();
        plantAgainAfterPick();
        eatOnTheSameSide();
        eatOnDifferentSides();
        eatFromTheTop();
        eatFromTheEndOfAChain();
        pickBetweenTwoTrees();
        pickBringsUpFirst();
        pickWithoutLeftOrRight();
        splitInTheMiddle();
        splitWithoutSmaller();
        splitWithoutGreater();
        splitEmptyAndEdges();
        joinTwoTrees();
        joinWithEmpty();
        joinNeighbours();
        applesAndTurnings();
        CHECK.end();
    }

    /** Promise 1. */
    private static void newObject() {
        SplayOrchard x = new SplayOrchard();
        for (int row = 0; row < 6; row++) {
            CHECK.same("sizeOf(" + row + ")", x.sizeOf(row), 0);
            CHECK.same("top(" + row + ")", x.top(row), -1);
        }
        CHECK.same("apples()", x.apples(), 0);
        CHECK.same("turnings()", x.turnings(), 0);
        SplayOrchard other = new SplayOrchard();
        x.plant(0, 1);
        CHECK.same("the other object's apples()", other.apples(), 0);
    }

    /** Promise 2: right below the top, on either side. */
    private static void plantTurnsOnce() {
        SplayOrchard x = new SplayOrchard();
        CHECK.same("plant(0, 50)", x.plant(0, 50), 0);
        looks(x, 0, "50");
        CHECK.same("plant(0, 30)", x.plant(0, 30), 1);
        looks(x, 0, "(. 30 50)");
        CHECK.same("plant(1, 30)", x.plant(1, 30), 0);
        CHECK.same("plant(1, 50)", x.plant(1, 50), 1);
        looks(x, 1, "(30 50 .)");
        CHECK.same("turnings()", x.turnings(), 2);
    }

    /** Promise 2: deeper ones, on the same side and on different sides. */
    private static void plantTurnsTwice() {
        SplayOrchard x = rowOf(10, 30);
        CHECK.same("plant(0, 20)", x.plant(0, 20), 2);
        looks(x, 0, "(10 20 30)");
        CHECK.same("plant(0, 40)", x.plant(0, 40), 2);
        looks(x, 0, "(((10 20 .) 30 .) 40 .)");
        CHECK.same("plant(0, 0)", x.plant(0, 0), 4);
        looks(x, 0, "(. 0 ((. 10 20) 30 40))");
        CHECK.same("turnings()", x.turnings(), 9);
        CHECK.same("eaten(0, 0)", x.eaten(0, 0), 0);
    }

    /** Promise 2: sizes 0 and 999, rows 0 and 5, the same size in two rows. */
    private static void plantAtTheEdges() {
        SplayOrchard x = new SplayOrchard();
        for (int row = 0; row < 6; row += 5) {
            CHECK.same("plant(" + row + ", 0)", x.plant(row, 0), 0);
            CHECK.same("plant(" + row + ", 999)", x.plant(row, 999), 1);
            looks(x, row, "(0 999 .)");
        }
        CHECK.refuses("plant(6, 1)", x, IndexOutOfBoundsException.class, () -> x.plant(6, 1));
        CHECK.refuses("plant(-1, 1)", x, IndexOutOfBoundsException.class, () -> x.plant(-1, 1));
        CHECK.refuses("plant(0, 1000)", x, IllegalArgumentException.class, () -> x.plant(0, 1000));
        CHECK.refuses("plant(0, -1)", x, IllegalArgumentException.class, () -> x.plant(0, -1));
        CHECK.refuses("plant(0, 0)", x, IllegalStateException.class, () -> x.plant(0, 0));
        CHECK.refuses("plant(6, -1)", x, IndexOutOfBoundsException.class, () -> x.plant(6, -1));
    }

    /** Promise 2: 40 apples in all rows together, and no more. */
    private static void plantUpTo40() {
        SplayOrchard x = new SplayOrchard();
        for (int i = 0; i < 40; i++) {
            CHECK.same("plant number " + i, x.plant(i % 6, i), i < 6 ? 0 : 1);
        }
        CHECK.same("apples()", x.apples(), 40);
        CHECK.refuses("plant(0, 500)", x, IllegalStateException.class, () -> x.plant(0, 500));
        CHECK.refuses("plant(5, 5)", x, IllegalStateException.class, () -> x.plant(5, 5));
        CHECK.refuses("plant(0, 1000)", x, IllegalArgumentException.class, () -> x.plant(0, 1000));
        CHECK.refuses("plant(-1, 500)", x, IndexOutOfBoundsException.class,
                () -> x.plant(-1, 500));
        x.pick(0, 36);
        CHECK.same("plant(5, 500)", x.plant(5, 500), 1);
        CHECK.same("apples()", x.apples(), 40);
        CHECK.refuses("plant(0, 36)", x, IllegalStateException.class, () -> x.plant(0, 36));
    }

    /** Promises 2 and 25: an apple of a picked one's size is another one. */
    private static void plantAgainAfterPick() {
        SplayOrchard x = rowOf(7);
        x.eat(0, 7);
        CHECK.same("pick(0, 7)", x.pick(0, 7), 1);
        CHECK.same("plant(0, 7)", x.plant(0, 7), 0);
        CHECK.same("eaten(0, 7)", x.eaten(0, 7), 0);
        CHECK.same("pick(0, 7)", x.pick(0, 7), 0);
    }

    /** Promise 3: the one right above is turned first. */
    private static void eatOnTheSameSide() {
        SplayOrchard x = rowOf(30, 20, 10);
        looks(x, 0, "(. 10 (. 20 30))");
        CHECK.same("eat(0, 30)", x.eat(0, 30), 2);
        looks(x, 0, "((10 20 .) 30 .)");
        CHECK.same("eat(0, 10)", x.eat(0, 10), 2);
        looks(x, 0, "(. 10 (. 20 30))");
        CHECK.same("turnings()", x.turnings(), 6);
    }

    /** Promise 3: it is turned twice. */
    private static void eatOnDifferentSides() {
        SplayOrchard x = rowOf(10);
        x.plant(1, 20);
        x.plant(1, 30);
        x.join(0, 1);
        looks(x, 0, "(. 10 (20 30 .))");
        CHECK.same("eat(0, 20)", x.eat(0, 20), 2);
        looks(x, 0, "(10 20 30)");
        CHECK.same("turnings()", x.turnings(), 3);
        SplayOrchard y = rowOf(40, 30, 20, 10);
        y.eat(0, 40);
        y.pick(0, 40);
        looks(y, 0, "((. 10 20) 30 .)");
        CHECK.same("eat(0, 20)", y.eat(0, 20), 2);
        looks(y, 0, "(10 20 30)");
    }

    /** Promise 3: nothing to turn, but a bite; and the refusals. */
    private static void eatFromTheTop() {
        SplayOrchard x = rowOf(20, 10);
        CHECK.same("eat(0, 10)", x.eat(0, 10), 0);
        CHECK.same("eat(0, 10)", x.eat(0, 10), 0);
        CHECK.same("eaten(0, 10)", x.eaten(0, 10), 2);
        CHECK.same("eaten(0, 20)", x.eaten(0, 20), 0);
        CHECK.same("turnings()", x.turnings(), 1);
        looks(x, 0, "(. 10 20)");
        CHECK.refuses("eat(0, 15)", x, IllegalStateException.class, () -> x.eat(0, 15));
        CHECK.refuses("eat(1, 10)", x, IllegalStateException.class, () -> x.eat(1, 10));
        CHECK.refuses("eat(0, 1000)", x, IllegalStateException.class, () -> x.eat(0, 1000));
        CHECK.refuses("eat(6, 10)", x, IndexOutOfBoundsException.class, () -> x.eat(6, 10));
        CHECK.refuses("eat(-1, 10)", x, IndexOutOfBoundsException.class, () -> x.eat(-1, 10));
    }

    /** Promise 3: 40 apples in a chain, the deepest that there can be. */
    private static void eatFromTheEndOfAChain() {
        SplayOrchard x = new SplayOrchard();
        for (int size = 0; size < 40; size++) {
            x.plant(0, size);
        }
        CHECK.same("height(0)", x.height(0), 40);
        CHECK.same("depths(0)", x.depths(0), 780);
        CHECK.same("eat(0, 0)", x.eat(0, 0), 39);
        CHECK.same("turnings()", x.turnings(), 78);
        CHECK.same("height(0)", x.height(0), 22);
        CHECK.same("depthOf(0, 39)", x.depthOf(0, 39), 1);
    }

    /** Promise 4. */
    private static void pickBetweenTwoTrees() {
        SplayOrchard x = rowOf(40, 30, 20, 10);
        CHECK.same("eat(0, 40)", x.eat(0, 40), 3);
        looks(x, 0, "((. 10 (20 30 .)) 40 .)");
        x.plant(0, 50);
        CHECK.same("eat(0, 40)", x.eat(0, 40), 1);
        looks(x, 0, "((. 10 (20 30 .)) 40 50)");
        CHECK.same("turnings()", x.turnings(), 8);
        CHECK.same("pick(0, 40)", x.pick(0, 40), 2);
        looks(x, 0, "((. 10 20) 30 50)");
        CHECK.same("turnings()", x.turnings(), 9);
        CHECK.same("has(0, 40)", x.has(0, 40), false);
        CHECK.same("above(0, 30)", x.above(0, 30), -1);
        CHECK.same("above(0, 50)", x.above(0, 50), 30);
    }

    /** Promise 4: its way up shapes what stays, and a pick is no bite. */
    private static void pickBringsUpFirst() {
        SplayOrchard x = rowOf(50, 40, 30, 20, 10);
        CHECK.same("pick(0, 50)", x.pick(0, 50), 0);
        looks(x, 0, "((10 20 30) 40 .)");
        CHECK.same("turnings()", x.turnings(), 9);
        CHECK.same("eaten(0, 40)", x.eaten(0, 40), 0);
        CHECK.refuses("pick(0, 50)", x, IllegalStateException.class, () -> x.pick(0, 50));
        CHECK.refuses("pick(5, 40)", x, IllegalStateException.class, () -> x.pick(5, 40));
        CHECK.refuses("pick(6, 40)", x, IndexOutOfBoundsException.class, () -> x.pick(6, 40));
        CHECK.refuses("pick(-1, 50)", x, IndexOutOfBoundsException.class, () -> x.pick(-1, 50));
    }

    /** Promise 4: the smallest, the greatest and the only one. */
    private static void pickWithoutLeftOrRight() {
        SplayOrchard x = rowOf(30, 20, 10);
        CHECK.same("pick(0, 10)", x.pick(0, 10), 0);
        looks(x, 0, "(. 20 30)");
        CHECK.same("above(0, 20)", x.above(0, 20), -1);
        CHECK.same("turnings()", x.turnings(), 2);
        CHECK.same("pick(0, 30)", x.pick(0, 30), 0);
        looks(x, 0, "20");
        CHECK.same("above(0, 20)", x.above(0, 20), -1);
        CHECK.same("turnings()", x.turnings(), 3);
        CHECK.same("pick(0, 20)", x.pick(0, 20), 0);
        looks(x, 0, ".");
        CHECK.same("apples()", x.apples(), 0);
    }

    /** Promise 5: an apple of the very size goes; the bites go along. */
    private static void splitInTheMiddle() {
        SplayOrchard x = rowOf(50, 40, 30, 20, 10);
        x.eat(0, 40);
        looks(x, 0, "((. 10 (20 30 .)) 40 50)");
        CHECK.same("split(0, 30, 5)", x.split(0, 30, 5), 3);
        looks(x, 0, "(10 20 .)");
        looks(x, 5, "(30 40 50)");
        CHECK.same("turnings()", x.turnings(), 10);
        CHECK.same("eaten(5, 40)", x.eaten(5, 40), 1);
        CHECK.same("above(5, 40)", x.above(5, 40), -1);
        CHECK.same("apples()", x.apples(), 5);
        CHECK.same("split(5, 31, 1)", x.split(5, 31, 1), 2);
        looks(x, 5, "30");
        looks(x, 1, "(. 40 50)");
    }

    /** Promise 5: the whole tree goes as it hangs, without a turning. */
    private static void splitWithoutSmaller() {
        SplayOrchard x = rowOf(10, 30, 20, 40);
        String tree = Looks.tree(x, 0);
        int turnings = x.turnings();
        CHECK.same("split(0, 10, 1)", x.split(0, 10, 1), 4);
        looks(x, 0, ".");
        looks(x, 1, tree);
        CHECK.same("split(1, 0, 2)", x.split(1, 0, 2), 4);
        looks(x, 1, ".");
        looks(x, 2, tree);
        CHECK.same("turnings()", x.turnings(), turnings);
    }

    /** Promise 5: nothing goes, and yet the greatest one comes up. */
    private static void splitWithoutGreater() {
        SplayOrchard x = rowOf(30, 20, 10);
        CHECK.same("split(0, 999, 1)", x.split(0, 999, 1), 0);
        looks(x, 0, "((10 20 .) 30 .)");
        looks(x, 1, ".");
        CHECK.same("turnings()", x.turnings(), 4);
        x.plant(0, 999);
        CHECK.same("split(0, 999, 1)", x.split(0, 999, 1), 1);
        looks(x, 1, "999");
    }

    /** Promise 5: an empty row, and the refusals. */
    private static void splitEmptyAndEdges() {
        SplayOrchard x = rowOf(20, 10);
        CHECK.same("split(1, 5, 2)", x.split(1, 5, 2), 0);
        Class<?> index = IndexOutOfBoundsException.class;
        Class<?> argument = IllegalArgumentException.class;
        Class<?> state = IllegalStateException.class;
        CHECK.refuses("split(6, 5, 1)", x, index, () -> x.split(6, 5, 1));
        CHECK.refuses("split(-1, 5, 1)", x, index, () -> x.split(-1, 5, 1));
        CHECK.refuses("split(0, 5, 6)", x, index, () -> x.split(0, 5, 6));
        CHECK.refuses("split(0, 5, -1)", x, index, () -> x.split(0, 5, -1));
        CHECK.refuses("split(0, 1000, 6)", x, index, () -> x.split(0, 1000, 6));
        CHECK.refuses("split(0, 1000, 1)", x, argument, () -> x.split(0, 1000, 1));
        CHECK.refuses("split(0, -1, 1)", x, argument, () -> x.split(0, -1, 1));
        CHECK.refuses("split(0, 1000, 0)", x, argument, () -> x.split(0, 1000, 0));
        CHECK.refuses("split(0, 15, 0)", x, state, () -> x.split(0, 15, 0));
        CHECK.refuses("split(1, 15, 1)", x, state, () -> x.split(1, 15, 1));
        CHECK.refuses("split(1, 15, 0)", x, state, () -> x.split(1, 15, 0));
        x.plant(1, 15);
        CHECK.refuses("split(0, 0, 1)", x, state, () -> x.split(0, 0, 1));
        CHECK.refuses("split(0, 999, 1)", x, state, () -> x.split(0, 999, 1));
    }

    /** Promise 6. */
    private static void joinTwoTrees() {
        SplayOrchard x = rowOf(30, 20, 10);
        x.plant(5, 50);
        x.plant(5, 40);
        x.eat(5, 40);
        CHECK.same("join(0, 5)", x.join(0, 5), 5);
        looks(x, 0, "((10 20 .) 30 (. 40 50))");
        looks(x, 5, ".");
        CHECK.same("above(0, 40)", x.above(0, 40), 30);
        CHECK.same("eaten(0, 40)", x.eaten(0, 40), 1);
        CHECK.same("turnings()", x.turnings(), 5);
        CHECK.same("apples()", x.apples(), 5);
        CHECK.same("plant(5, 1)", x.plant(5, 1), 0);
    }

    /** Promise 6: an empty first one turns nothing; an empty other one does not stop the turning. */
    private static void joinWithEmpty() {
        SplayOrchard x = rowOf(30, 20, 10);
        CHECK.same("join(1, 0)", x.join(1, 0), 3);
        looks(x, 0, ".");
        looks(x, 1, "(. 10 (. 20 30))");
        CHECK.same("turnings()", x.turnings(), 2);
        CHECK.same("join(1, 0)", x.join(1, 0), 3);
        looks(x, 1, "((10 20 .) 30 .)");
        CHECK.same("turnings()", x.turnings(), 4);
        CHECK.same("join(2, 3)", x.join(2, 3), 0);
        looks(x, 2, ".");
    }

    /** Promise 6: the first one's greatest must be smaller than the other one's smallest. */
    private static void joinNeighbours() {
        SplayOrchard x = rowOf(10, 20);
        x.plant(1, 20);
        x.plant(1, 30);
        Class<?> index = IndexOutOfBoundsException.class;
        Class<?> state = IllegalStateException.class;
        CHECK.refuses("join(0, 1)", x, state, () -> x.join(0, 1));
        CHECK.refuses("join(1, 0)", x, state, () -> x.join(1, 0));
        CHECK.refuses("join(0, 0)", x, state, () -> x.join(0, 0));
        CHECK.refuses("join(5, 5)", x, state, () -> x.join(5, 5));
        CHECK.refuses("join(0, 6)", x, index, () -> x.join(0, 6));
        CHECK.refuses("join(6, 0)", x, index, () -> x.join(6, 0));
        CHECK.refuses("join(6, 6)", x, index, () -> x.join(6, 6));
        CHECK.refuses("join(-1, -1)", x, index, () -> x.join(-1, -1));
        x.pick(1, 20);
        x.plant(1, 21);
        CHECK.same("join(0, 1)", x.join(0, 1), 4);
    }

    /** Promises 7 and 8. */
    private static void applesAndTurnings() {
        SplayOrchard x = new SplayOrchard();
        x.plant(0, 1);
        x.plant(5, 1);
        CHECK.same("apples()", x.apples(), 2);
        x.plant(5, 3);
        x.plant(5, 2);
        CHECK.same("apples()", x.apples(), 4);
        CHECK.same("turnings()", x.turnings(), 3);
        x.depthBehind(5, 1, 3);
        x.heightBehind(5, 3);
        x.bestToEat(5);
        x.digest();
        CHECK.same("turnings() behind tries", x.turnings(), 3);
        x.pick(5, 1);
        CHECK.same("apples()", x.apples(), 3);
        CHECK.same("turnings()", x.turnings(), 4);
    }

    private static SplayOrchard rowOf(int... sizes) {
        SplayOrchard orchard = new SplayOrchard();
        for (int size : sizes) {
            orchard.plant(0, size);
        }
        return orchard;
    }

    private static void looks(SplayOrchard orchard, int row, String due) {
        CHECK.sameText("row " + row, Looks.tree(orchard, row), due);
    }
}
