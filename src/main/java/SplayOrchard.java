/**
 * An orchard of apple trees that come up as they are eaten.
 *
 * <p>Each row is a tree of apples by their sizes; an apple from which one eats is turned up to the
 * top; rows are split and joined.
 */
public final class SplayOrchard {
    private static final int ROWS = 6;
    private static final int MOST_APPLES = 40;
    private static final int GREATEST_SIZE = 999;
    private static final int NONE = -1;
    private static final long DIGEST_START = 2339L;

    private final Tree[] rows = new Tree[ROWS];
    /** Made once and used for every "what would be", so that these calls make no objects. */
    private final Tree trial = new Tree();
    private int turned;

    /** Creates an orchard with empty rows. */
    public SplayOrchard() {
        for (int i = 0; i < rows.length; i++) {
            rows[i] = new Tree();
        }
    }

    // ---- apples.

    /** Plants an apple and brings it up; returns how deep it hung before. */
    public int plant(int row, int size)
            throws IndexOutOfBoundsException, IllegalArgumentException, IllegalStateException {
        Tree tree = treeOf(row);
        checkSize(size);
        if (apples() >= MOST_APPLES) {
            throw new IllegalStateException("the orchard is full");
        }
        if (tree.find(size) != null) {
            throw new IllegalStateException("there is an apple of this size in the row");
        }
        Apple apple = new Apple(size, new Apple(size, null));
        tree.hang(apple);
        return bringUp(tree, apple);
    }

    /** Eats from an apple, which is brought up; returns how deep it hung. */
    public int eat(int row, int size) throws IndexOutOfBoundsException, IllegalStateException {
        Tree tree = treeOf(row);
        Apple apple = appleOf(tree, size);
        apple.bites++;
        return bringUp(tree, apple);
    }

    /** Picks an apple and closes the gap; returns how often one ate from it. */
    public int pick(int row, int size) throws IndexOutOfBoundsException, IllegalStateException {
        Tree tree = treeOf(row);
        Apple apple = appleOf(tree, size);
        bringUp(tree, apple);
        tree.setTop(apple.left);
        append(tree, apple.right);
        return apple.bites;
    }

    /** Moves the apples that are not smaller than a size to an empty row; returns how many go. */
    public int split(int row, int size, int empty)
            throws IndexOutOfBoundsException, IllegalArgumentException, IllegalStateException {
        Tree tree = treeOf(row);
        Tree target = treeOf(empty);
        checkSize(size);
        if (target == tree) {
            throw new IllegalStateException("both rows are the same");
        }
        if (target.top != null) {
            throw new IllegalStateException("the other row is not empty");
        }
        Apple border = tree.greatestBelow(size);
        if (border == null) {
            target.setTop(tree.top);
            tree.setTop(null);
        } else {
            bringUp(tree, border);
            target.setTop(border.right);
            border.hangRight(null);
        }
        return target.count();
    }

    /** Moves a row of greater apples to the end of another; returns how many apples that has then. */
    public int join(int row, int other) throws IndexOutOfBoundsException, IllegalStateException {
        Tree tree = treeOf(row);
        Tree source = treeOf(other);
        if (!mayJoin(tree, source)) {
            throw new IllegalStateException("the rows can't be joined");
        }
        append(tree, source.top);
        source.setTop(null);
        return tree.count();
    }

    // ---- rows.

    /** Returns how many apples there are in all rows. */
    public int apples() {
        int sum = 0;
        for (Tree tree : rows) {
            sum += tree.count();
        }
        return sum;
    }

    /** Returns how often an apple was turned in all. */
    public int turnings() {
        return turned;
    }

    /** Returns how many apples a row has. */
    public int sizeOf(int row) throws IndexOutOfBoundsException {
        return treeOf(row).count();
    }

    /** Returns the size of a row's top; -1 if it is empty. */
    public int top(int row) throws IndexOutOfBoundsException {
        return sizeOrNone(treeOf(row).top);
    }

    /** Returns the greatest depth of a row's apples, and 1; 0 if it is empty. */
    public int height(int row) throws IndexOutOfBoundsException {
        return treeOf(row).levels();
    }

    /** Returns the least height that a tree with as many apples can have. */
    public int leastHeight(int row) throws IndexOutOfBoundsException {
        int count = treeOf(row).count();
        int levels = 0;
        for (int room = 0; room < count; room = 2 * room + 1) {
            levels++;
        }
        return levels;
    }

    /** Returns the depths of a row's apples, added. */
    public int depths(int row) throws IndexOutOfBoundsException {
        return treeOf(row).depthSum();
    }

    /** Returns the size of a row's smallest apple; -1 if it is empty. */
    public int smallest(int row) throws IndexOutOfBoundsException {
        return sizeOrNone(treeOf(row).first());
    }

    /** Returns the size of a row's greatest apple; -1 if it is empty. */
    public int greatest(int row) throws IndexOutOfBoundsException {
        return sizeOrNone(treeOf(row).last());
    }

    /** Returns the size of the apple at a place in the order of sizes, from 0 on. */
    public int inOrder(int row, int place) throws IndexOutOfBoundsException {
        Apple apple = treeOf(row).at(place);
        if (apple == null) {
            throw new IndexOutOfBoundsException("no such place in the row");
        }
        return apple.size;
    }

    /** Returns how many of a row's apples have nothing below them. */
    public int leaves(int row) throws IndexOutOfBoundsException {
        return treeOf(row).leafCount();
    }

    // ---- apples in a row.

    /** Returns whether a row has an apple of a size. */
    public boolean has(int row, int size) throws IndexOutOfBoundsException {
        return treeOf(row).find(size) != null;
    }

    /** Returns how many of a row's apples are smaller than a size. */
    public int smaller(int row, int size) throws IndexOutOfBoundsException {
        return treeOf(row).countBelow(size);
    }

    /** Returns an apple's depth. */
    public int depthOf(int row, int size) throws IndexOutOfBoundsException, IllegalStateException {
        return appleOf(treeOf(row), size).depth();
    }

    /** Returns the size of the apple right above one; -1 for the top. */
    public int above(int row, int size) throws IndexOutOfBoundsException, IllegalStateException {
        return sizeOrNone(appleOf(treeOf(row), size).up);
    }

    /** Returns the size of the apple right below one on the left; -1 without one. */
    public int leftOf(int row, int size) throws IndexOutOfBoundsException, IllegalStateException {
        return sizeOrNone(appleOf(treeOf(row), size).left);
    }

    /** Returns the size of the apple right below one on the right; -1 without one. */
    public int rightOf(int row, int size) throws IndexOutOfBoundsException, IllegalStateException {
        return sizeOrNone(appleOf(treeOf(row), size).right);
    }

    /** Returns how many apples hang below one, itself not. */
    public int below(int row, int size) throws IndexOutOfBoundsException, IllegalStateException {
        return appleOf(treeOf(row), size).countUnder();
    }

    /** Returns how often one ate from an apple. */
    public int eaten(int row, int size) throws IndexOutOfBoundsException, IllegalStateException {
        return appleOf(treeOf(row), size).bites;
    }

    /** Returns the size of the apple from which one ate most often; -1 if the row is empty. */
    public int favourite(int row) throws IndexOutOfBoundsException {
        return sizeOrNone(treeOf(row).mostBitten());
    }

    /** Returns the size of the deepest apple that is one of both, or above both. */
    public int meet(int row, int size, int other)
            throws IndexOutOfBoundsException, IllegalStateException {
        Tree tree = treeOf(row);
        Apple one = appleOf(tree, size);
        Apple two = appleOf(tree, other);
        return sizeOrNone(tree.meeting(one, two));
    }

    // ---- what would be.

    /** Returns the other one's depth, if one ate from the first one now. */
    public int depthBehind(int row, int size, int other)
            throws IndexOutOfBoundsException, IllegalStateException {
        Tree tree = treeOf(row);
        tryEating(tree, appleOf(tree, size));
        // The trial tree has the same sizes, so that it refuses the ones that the row lacks.
        return appleOf(trial, other).depth();
    }

    /** Returns the height of the row, if one ate from an apple now. */
    public int heightBehind(int row, int size)
            throws IndexOutOfBoundsException, IllegalStateException {
        Tree tree = treeOf(row);
        tryEating(tree, appleOf(tree, size));
        return trial.levels();
    }

    /** Returns the size of the apple behind which the depths, added, are the least; -1 if empty. */
    public int bestToEat(int row) throws IndexOutOfBoundsException {
        Tree tree = treeOf(row);
        Apple best = null;
        int least = 0;
        for (Apple a = tree.first(); a != null; a = a.next()) {
            tryEating(tree, a);
            int sum = trial.depthSum();
            if (best == null || sum < least) {
                best = a;
                least = sum;
            }
        }
        return sizeOrNone(best);
    }

    /** Returns how deep an apple of a size would hang, if it was planted now; -1 if there is one. */
    public int plantDepth(int row, int size)
            throws IndexOutOfBoundsException, IllegalArgumentException {
        Tree tree = treeOf(row);
        checkSize(size);
        Apple place = tree.nearest(size);
        if (place == null) {
            return 0;
        }
        return place.size == size ? NONE : place.depth() + 1;
    }

    /** Returns whether join() of both is not refused. */
    public boolean canJoin(int row, int other) throws IndexOutOfBoundsException {
        return mayJoin(treeOf(row), treeOf(other));
    }

    /** Returns the mean depth of a row's apples; 0 if it is empty. */
    public double meanDepth(int row) throws IndexOutOfBoundsException {
        Tree tree = treeOf(row);
        int count = tree.count();
        return count == 0 ? 0.0 : (double) tree.depthSum() / count;
    }

    /** Computes a checksum of all rows and their apples. */
    public long digest() {
        long d = DIGEST_START;
        d = mix(d, apples());
        d = mix(d, turnings());
        for (int row = 0; row < rows.length; row++) {
            d = mixRow(d, row);
            for (Apple a = rows[row].first(); a != null; a = a.next()) {
                d = mixApple(d, a);
            }
        }
        return d;
    }

    private long mixRow(long start, int row) {
        long d = start;
        d = mix(d, sizeOf(row));
        d = mix(d, top(row));
        d = mix(d, height(row));
        d = mix(d, leastHeight(row));
        d = mix(d, depths(row));
        d = mix(d, leaves(row));
        d = mix(d, favourite(row));
        return mix(d, bestToEat(row));
    }

    private static long mixApple(long start, Apple apple) {
        long d = start;
        d = mix(d, apple.size);
        d = mix(d, apple.depth());
        d = mix(d, sizeOrNone(apple.up));
        d = mix(d, sizeOrNone(apple.left));
        d = mix(d, sizeOrNone(apple.right));
        d = mix(d, apple.countUnder());
        return mix(d, apple.bites);
    }

    private static long mix(long d, int x) {
        return d * 31 + x;
    }

    private Tree treeOf(int row) {
        if (row < 0 || row >= rows.length) {
            throw new IndexOutOfBoundsException("no such row");
        }
        return rows[row];
    }

    private static void checkSize(int size) {
        if (size < 0 || size > GREATEST_SIZE) {
            throw new IllegalArgumentException("the size is not 0 to 999");
        }
    }

    private static Apple appleOf(Tree tree, int size) {
        Apple apple = tree.find(size);
        if (apple == null) {
            throw new IllegalStateException("no apple of this size in the row");
        }
        return apple;
    }

    private static int sizeOrNone(Apple apple) {
        return apple == null ? NONE : apple.size;
    }

    private static boolean mayJoin(Tree tree, Tree source) {
        if (tree == source) {
            return false;
        }
        Apple greatest = tree.last();
        Apple smallest = source.first();
        return greatest == null || smallest == null || greatest.size < smallest.size;
    }

    /** Brings an apple up for good, unlike a try: its turnings count. */
    private int bringUp(Tree tree, Apple apple) {
        int depth = tree.bringUp(apple);
        turned += depth;
        return depth;
    }

    /** Hangs a tree of greater apples to the right of a row's greatest one, brought up for that. */
    private void append(Tree tree, Apple right) {
        Apple greatest = tree.last();
        if (greatest == null) {
            tree.setTop(right);
        } else {
            bringUp(tree, greatest);
            greatest.hangRight(right);
        }
    }

    /** Makes the trial tree what the tree would be, if one ate from an apple of it. */
    private void tryEating(Tree tree, Apple apple) {
        trial.standInFor(tree);
        Apple standIn = apple.standIn;
        if (standIn != null) {
            trial.bringUp(standIn);
        }
    }

    /** An apple, and the apples right above and right below it, null where there is none. */
    private static final class Apple {
        final int size;
        /** Hangs in the trial tree in place of this one; a stand-in itself has none. */
        final Apple standIn;
        Apple up;
        Apple left;
        Apple right;
        int bites;

        Apple(int size, Apple standIn) {
            this.size = size;
            this.standIn = standIn;
        }

        void hangLeft(Apple apple) {
            left = apple;
            if (apple != null) {
                apple.up = this;
            }
        }

        void hangRight(Apple apple) {
            right = apple;
            if (apple != null) {
                apple.up = this;
            }
        }

        boolean isOnTheLeft() {
            return up != null && up.left == this;
        }

        /** Takes the place of the apple right above. */
        void turn() {
            Apple lowered = up;
            if (lowered == null) {
                return;
            }
            Apple over = lowered.up;
            boolean loweredOnTheLeft = lowered.isOnTheLeft();
            if (isOnTheLeft()) {
                lowered.hangLeft(right);
                hangRight(lowered);
            } else {
                lowered.hangRight(left);
                hangLeft(lowered);
            }
            up = over;
            if (over != null && loweredOnTheLeft) {
                over.hangLeft(this);
            } else if (over != null) {
                over.hangRight(this);
            }
        }

        int depth() {
            int depth = 0;
            for (Apple a = up; a != null; a = a.up) {
                depth++;
            }
            return depth;
        }

        /** The apple right below, on the way to a size; null at the size itself and at the end. */
        Apple towards(int wanted) {
            if (wanted == size) {
                return null;
            }
            return wanted < size ? left : right;
        }

        Apple leastUnder() {
            Apple a = this;
            while (a.left != null) {
                a = a.left;
            }
            return a;
        }

        Apple greatestUnder() {
            Apple a = this;
            while (a.right != null) {
                a = a.right;
            }
            return a;
        }

        /** The next greater apple of the tree; null behind the greatest one. */
        Apple next() {
            if (right != null) {
                return right.leastUnder();
            }
            Apple a = this;
            while (a.up != null && a.up.right == a) {
                a = a.up;
            }
            return a.up;
        }

        int countUnder() {
            Apple last = greatestUnder();
            int count = 0;
            // Leaving out the last one makes up for counting this one.
            for (Apple a = leastUnder(); a != null && a != last; a = a.next()) {
                count++;
            }
            return count;
        }

        void linkStandIn() {
            if (standIn != null) {
                standIn.up = standInOf(up);
                standIn.left = standInOf(left);
                standIn.right = standInOf(right);
            }
        }

        static Apple standInOf(Apple apple) {
            return apple == null ? null : apple.standIn;
        }
    }

    /** The tree of one row, with no top while it is empty. */
    private static final class Tree {
        Apple top;

        void setTop(Apple apple) {
            top = apple;
            if (apple != null) {
                apple.up = null;
            }
        }

        Apple first() {
            return top == null ? null : top.leastUnder();
        }

        Apple last() {
            return top == null ? null : top.greatestUnder();
        }

        /** The apple of a size, or else the one right below which it would hang. */
        Apple nearest(int size) {
            Apple nearest = null;
            for (Apple a = top; a != null; a = a.towards(size)) {
                nearest = a;
            }
            return nearest;
        }

        Apple find(int size) {
            Apple nearest = nearest(size);
            return nearest != null && nearest.size == size ? nearest : null;
        }

        void hang(Apple apple) {
            Apple place = nearest(apple.size);
            if (place == null) {
                setTop(apple);
            } else if (apple.size < place.size) {
                place.hangLeft(apple);
            } else {
                place.hangRight(apple);
            }
        }

        /**
         * Turns an apple up to the top and returns how deep it hung. Every turning, its own or that
         * of the one right above it, takes it up by 1: there are as many as it hung deep.
         */
        int bringUp(Apple apple) {
            int depth = apple.depth();
            for (int toGo = depth; toGo > 0; toGo -= 2) {
                Apple over = apple.up;
                if (over != null && over.up != null) {
                    Apple first = apple.isOnTheLeft() == over.isOnTheLeft() ? over : apple;
                    first.turn();
                }
                apple.turn();
            }
            top = apple;
            return depth;
        }

        Apple at(int place) {
            int passed = 0;
            for (Apple a = first(); a != null; a = a.next()) {
                if (passed == place) {
                    return a;
                }
                passed++;
            }
            return null;
        }

        int count() {
            return top == null ? 0 : top.countUnder() + 1;
        }

        int countBelow(int size) {
            int count = 0;
            for (Apple a = first(); a != null && a.size < size; a = a.next()) {
                count++;
            }
            return count;
        }

        Apple greatestBelow(int size) {
            Apple greatest = null;
            for (Apple a = first(); a != null && a.size < size; a = a.next()) {
                greatest = a;
            }
            return greatest;
        }

        int levels() {
            int levels = 0;
            for (Apple a = first(); a != null; a = a.next()) {
                levels = Math.max(levels, a.depth() + 1);
            }
            return levels;
        }

        int depthSum() {
            int sum = 0;
            for (Apple a = first(); a != null; a = a.next()) {
                sum += a.depth();
            }
            return sum;
        }

        int leafCount() {
            int count = 0;
            for (Apple a = first(); a != null; a = a.next()) {
                if (a.left == null && a.right == null) {
                    count++;
                }
            }
            return count;
        }

        Apple mostBitten() {
            Apple most = null;
            for (Apple a = first(); a != null; a = a.next()) {
                if (most == null || a.bites > most.bites) {
                    most = a;
                }
            }
            return most;
        }

        /** The first one from the top on that does not have both on the same side. */
        Apple meeting(Apple one, Apple two) {
            int least = Math.min(one.size, two.size);
            int greatest = Math.max(one.size, two.size);
            for (Apple a = top; a != null; a = a.towards(least)) {
                if (a.size >= least && a.size <= greatest) {
                    return a;
                }
            }
            return null;
        }

        /** Becomes the same tree as another one, of stand-ins. */
        void standInFor(Tree other) {
            for (Apple a = other.first(); a != null; a = a.next()) {
                a.linkStandIn();
            }
            top = Apple.standInOf(other.top);
        }
    }
}
