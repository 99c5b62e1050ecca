import java.util.ArrayList;
import java.util.HashMap;
import java.util.List;
import java.util.Map;
import java.util.TreeMap;

/**
 * The document once more, by other means and without regard to speed: a row is a table that says
 * for each size which one is right above it (-1 for the top). Which side an apple hangs on follows
 * from the sizes.
 */
final class PlainOrchard {
    private final List<TreeMap<Integer, Integer>> rows = new ArrayList<>();
    private final List<Map<Integer, Integer>> bites = new ArrayList<>();
    private int turnings;

    PlainOrchard() {
        for (int i = 0; i < 6; i++) {
            rows.add(new TreeMap<>());
            bites.add(new HashMap<>());
        }
    }

    int plant(int row, int size) {
        checkRow(row);
        checkSize(size);
        checkState(apples() < 40 && !rows.get(row).containsKey(size));
        int deep = plantDepth(row, size);
        TreeMap<Integer, Integer> up = rows.get(row);
        up.put(size, hangsBelow(up, size));
        bites.get(row).put(size, 0);
        turnings += bringUp(up, size);
        return deep;
    }

    int eat(int row, int size) {
        int deep = depthOf(row, size);
        turnings += bringUp(rows.get(row), size);
        bites.get(row).merge(size, 1, Integer::sum);
        return deep;
    }

    int pick(int row, int size) {
        int times = eaten(row, size);
        TreeMap<Integer, Integer> up = rows.get(row);
        turnings += bringUp(up, size);
        TreeMap<Integer, Integer> left = new TreeMap<>(up.headMap(size));
        TreeMap<Integer, Integer> right = new TreeMap<>(up.tailMap(size + 1));
        left.replaceAll((apple, above) -> above == size ? -1 : above);
        right.replaceAll((apple, above) -> above == size ? -1 : above);
        up.clear();
        up.putAll(left);
        append(up, right);
        bites.get(row).remove(size);
        return times;
    }

    int split(int row, int size, int empty) {
        checkRow(row);
        checkRow(empty);
        checkSize(size);
        checkState(row != empty && rows.get(empty).isEmpty());
        TreeMap<Integer, Integer> up = rows.get(row);
        TreeMap<Integer, Integer> other = rows.get(empty);
        Integer border = up.lowerKey(size);
        if (border != null) {
            turnings += bringUp(up, border);
        }
        for (int apple : new ArrayList<>(up.tailMap(size).keySet())) {
            int above = up.remove(apple);
            other.put(apple, border != null && above == border ? -1 : above);
            bites.get(empty).put(apple, bites.get(row).remove(apple));
        }
        return other.size();
    }

    int join(int row, int other) {
        checkState(canJoin(row, other));
        append(rows.get(row), rows.get(other));
        bites.get(row).putAll(bites.get(other));
        rows.get(other).clear();
        bites.get(other).clear();
        return rows.get(row).size();
    }

    int apples() {
        int sum = 0;
        for (TreeMap<Integer, Integer> up : rows) {
            sum += up.size();
        }
        return sum;
    }

    int turnings() {
        return turnings;
    }

    int sizeOf(int row) {
        checkRow(row);
        return rows.get(row).size();
    }

    int top(int row) {
        checkRow(row);
        return topOf(rows.get(row));
    }

    int height(int row) {
        checkRow(row);
        return heightOf(rows.get(row));
    }

    int leastHeight(int row) {
        checkRow(row);
        int levels = 0;
        while ((1 << levels) - 1 < rows.get(row).size()) {
            levels++;
        }
        return levels;
    }

    int depths(int row) {
        checkRow(row);
        return depthsOf(rows.get(row));
    }

    int smallest(int row) {
        checkRow(row);
        return rows.get(row).isEmpty() ? -1 : rows.get(row).firstKey();
    }

    int greatest(int row) {
        checkRow(row);
        return rows.get(row).isEmpty() ? -1 : rows.get(row).lastKey();
    }

    int inOrder(int row, int place) {
        checkRow(row);
        if (place < 0 || place >= rows.get(row).size()) {
            throw new IndexOutOfBoundsException();
        }
        return new ArrayList<>(rows.get(row).keySet()).get(place);
    }

    int leaves(int row) {
        checkRow(row);
        int count = 0;
        for (int apple : rows.get(row).keySet()) {
            count += rows.get(row).containsValue(apple) ? 0 : 1;
        }
        return count;
    }

    boolean has(int row, int size) {
        checkRow(row);
        return rows.get(row).containsKey(size);
    }

    int smaller(int row, int size) {
        checkRow(row);
        return rows.get(row).headMap(size).size();
    }

    int depthOf(int row, int size) {
        checkApple(row, size);
        return depth(rows.get(row), size);
    }

    int above(int row, int size) {
        checkApple(row, size);
        return rows.get(row).get(size);
    }

    int leftOf(int row, int size) {
        checkApple(row, size);
        return child(rows.get(row), size, true);
    }

    int rightOf(int row, int size) {
        checkApple(row, size);
        return child(rows.get(row), size, false);
    }

    int below(int row, int size) {
        checkApple(row, size);
        int count = 0;
        for (int apple : rows.get(row).keySet()) {
            count += apple != size && upwards(rows.get(row), apple).contains(size) ? 1 : 0;
        }
        return count;
    }

    int eaten(int row, int size) {
        checkApple(row, size);
        return bites.get(row).get(size);
    }

    int favourite(int row) {
        checkRow(row);
        int best = -1;
        for (int apple : rows.get(row).descendingKeySet()) {
            if (best == -1 || bites.get(row).get(apple) >= bites.get(row).get(best)) {
                best = apple;
            }
        }
        return best;
    }

    int meet(int row, int size, int other) {
        checkApple(row, size);
        checkApple(row, other);
        List<Integer> shared = upwards(rows.get(row), size);
        shared.retainAll(upwards(rows.get(row), other));
        return shared.get(0);
    }

    int depthBehind(int row, int size, int other) {
        checkApple(row, size);
        checkApple(row, other);
        return depth(behind(row, size), other);
    }

    int heightBehind(int row, int size) {
        checkApple(row, size);
        return heightOf(behind(row, size));
    }

    int bestToEat(int row) {
        checkRow(row);
        int best = -1;
        int least = 0;
        for (int apple : rows.get(row).descendingKeySet()) {
            int sum = depthsOf(behind(row, apple));
            if (best == -1 || sum <= least) {
                best = apple;
                least = sum;
            }
        }
        return best;
    }

    int plantDepth(int row, int size) {
        checkRow(row);
        checkSize(size);
        TreeMap<Integer, Integer> up = rows.get(row);
        if (up.containsKey(size)) {
            return -1;
        }
        int place = hangsBelow(up, size);
        return place == -1 ? 0 : depth(up, place) + 1;
    }

    boolean canJoin(int row, int other) {
        checkRow(row);
        checkRow(other);
        TreeMap<Integer, Integer> first = rows.get(row);
        TreeMap<Integer, Integer> second = rows.get(other);
        return row != other
                && (first.isEmpty() || second.isEmpty() || first.lastKey() < second.firstKey());
    }

    double meanDepth(int row) {
        checkRow(row);
        return rows.get(row).isEmpty() ? 0 : depths(row) / (double) sizeOf(row);
    }

    long digest() {
        List<Integer> numbers = new ArrayList<>(List.of(apples(), turnings()));
        for (int row = 0; row < 6; row++) {
            numbers.addAll(List.of(sizeOf(row), top(row), height(row), leastHeight(row)));
            numbers.addAll(List.of(depths(row), leaves(row), favourite(row), bestToEat(row)));
            for (int apple : rows.get(row).keySet()) {
                numbers.addAll(List.of(apple, depthOf(row, apple), above(row, apple)));
                numbers.addAll(List.of(leftOf(row, apple), rightOf(row, apple)));
                numbers.addAll(List.of(below(row, apple), eaten(row, apple)));
            }
        }
        long d = 2339;
        for (int x : numbers) {
            d = d * 31 + x;
        }
        return d;
    }

    private TreeMap<Integer, Integer> behind(int row, int size) {
        TreeMap<Integer, Integer> copy = new TreeMap<>(rows.get(row));
        bringUp(copy, size);
        return copy;
    }

    private void append(TreeMap<Integer, Integer> up, TreeMap<Integer, Integer> right) {
        int greatest = up.isEmpty() ? -1 : up.lastKey();
        if (greatest != -1) {
            turnings += bringUp(up, greatest);
        }
        for (int apple : right.keySet()) {
            up.put(apple, right.get(apple) == -1 ? greatest : right.get(apple));
        }
    }

    /** Returns how many turnings it takes. */
    private static int bringUp(TreeMap<Integer, Integer> up, int apple) {
        int turned = 0;
        while (up.get(apple) != -1) {
            int parent = up.get(apple);
            int grand = up.get(parent);
            if (grand == -1) {
                turn(up, apple);
                turned++;
            } else {
                boolean sameSide = (apple < parent) == (parent < grand);
                turn(up, sameSide ? parent : apple);
                turn(up, apple);
                turned += 2;
            }
        }
        return turned;
    }

    private static void turn(TreeMap<Integer, Integer> up, int apple) {
        int parent = up.get(apple);
        int moved = child(up, apple, apple > parent);
        if (moved != -1) {
            up.put(moved, parent);
        }
        up.put(apple, up.get(parent));
        up.put(parent, apple);
    }

    private static int child(TreeMap<Integer, Integer> up, int apple, boolean left) {
        for (Map.Entry<Integer, Integer> entry : up.entrySet()) {
            if (entry.getValue() == apple && entry.getKey() < apple == left) {
                return entry.getKey();
            }
        }
        return -1;
    }

    private static int hangsBelow(TreeMap<Integer, Integer> up, int size) {
        int place = -1;
        for (int apple = topOf(up); apple != -1; apple = child(up, apple, size < apple)) {
            place = apple;
        }
        return place;
    }

    private static int topOf(TreeMap<Integer, Integer> up) {
        return child(up, -1, false);
    }

    private static int heightOf(TreeMap<Integer, Integer> up) {
        int height = 0;
        for (int apple : up.keySet()) {
            height = Math.max(height, depth(up, apple) + 1);
        }
        return height;
    }

    private static int depthsOf(TreeMap<Integer, Integer> up) {
        int sum = 0;
        for (int apple : up.keySet()) {
            sum += depth(up, apple);
        }
        return sum;
    }

    private static int depth(TreeMap<Integer, Integer> up, int apple) {
        return upwards(up, apple).size() - 1;
    }

    /** The apple and those above it, up to the top. */
    private static List<Integer> upwards(TreeMap<Integer, Integer> up, int apple) {
        List<Integer> path = new ArrayList<>();
        for (int a = apple; a != -1; a = up.get(a)) {
            path.add(a);
        }
        return path;
    }

    private static void checkRow(int row) {
        if (row < 0 || row > 5) {
            throw new IndexOutOfBoundsException();
        }
    }

    private static void checkSize(int size) {
        if (size < 0 || size > 999) {
            throw new IllegalArgumentException();
        }
    }

    private static void checkState(boolean holds) {
        if (!holds) {
            throw new IllegalStateException();
        }
    }

    private void checkApple(int row, int size) {
        checkRow(row);
        checkState(rows.get(row).containsKey(size));
    }
}
