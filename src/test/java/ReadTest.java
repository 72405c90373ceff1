import java.util.ArrayList;
import java.util.Comparator;
import java.util.List;

/** Promises 5 to 8: get, next, depth and size. */
public final class ReadTest {
    public static void main(String[] args) {
        Due test = new Due("ReadTest");
        get(test);
        next(test);
        depth(test);
        depthOfNeighboursInRank(test);
        size(test);
        whileDown(test);
        test.finish();
    }

    private static FencedTreeHeap some() {
        FencedTreeHeap x = new FencedTreeHeap();
        x.put(0, 10);
        x.put(9, 0);
        x.put(4095, 999999999);
        x.put(7, 30);
        return x;
    }

    private static void get(Due test) {
        FencedTreeHeap x = some();
        test.due("get(0)", x.get(0), 10);
        test.due("get(9)", x.get(9), 0);
        test.due("get(4095)", x.get(4095), 999999999);
        int[] absent = {-1, 1, 8, 10, 4094, 4096, Integer.MIN_VALUE, Integer.MAX_VALUE};
        for (int key : absent) {
            test.due("get(" + key + ")", x.get(key), FencedTreeHeap.ABSENT);
        }
        x.put(9, 5);
        test.due("get(9)", x.get(9), 5);
        x.remove(9);
        test.due("get(9)", x.get(9), FencedTreeHeap.ABSENT);
    }

    private static void next(Due test) {
        FencedTreeHeap x = some();
        int[][] pairs = {
            {Integer.MIN_VALUE, 0}, {-1, 0}, {0, 0}, {1, 7}, {7, 7}, {8, 9}, {9, 9}, {10, 4095},
            {4095, 4095}, {4096, FencedTreeHeap.ABSENT}, {Integer.MAX_VALUE, FencedTreeHeap.ABSENT},
        };
        for (int[] pair : pairs) {
            test.due("next(" + pair[0] + ")", x.next(pair[0]), pair[1]);
        }
        x.remove(0);
        test.due("next(-1)", x.next(-1), 7);
        x.remove(4095);
        test.due("next(10)", x.next(10), FencedTreeHeap.ABSENT);
    }

    // Ranks: 4095 has 943808, 9 has 824632, 7 has 678323, 0 has 532604.
    private static void depth(Due test) {
        FencedTreeHeap x = some();
        test.due("depth(4095)", x.depth(4095), 0);
        test.due("depth(9)", x.depth(9), 1);
        test.due("depth(7)", x.depth(7), 2);
        test.due("depth(0)", x.depth(0), 3);
        int[] absent = {-1, 1, 4096, Integer.MIN_VALUE, Integer.MAX_VALUE};
        for (int key : absent) {
            test.due("depth(" + key + ")", x.depth(key), FencedTreeHeap.ABSENT);
        }
        x.put(9, 77);
        test.due("depth(0) after another value", x.depth(0), 3);
        FencedTreeHeap y = Chain.full();
        for (int i = 0; i < 30; i++) {
            test.due("depth in a chain", y.depth(Chain.KEYS[i]), i);
        }
        y.remove(Chain.KEYS[10]);
        test.due("depth without one above", y.depth(Chain.KEYS[29]), 28);
        int[][] equals = {{218, 3701}, {229, 3690}, {318, 1273}, {1971, 3881}, {549, 3370}};
        for (int[] pair : equals) {
            FencedTreeHeap z = new FencedTreeHeap();
            z.put(pair[1], 1);
            z.put(pair[0], 1);
            test.due("depth(" + pair[0] + ") of equal ranks", z.depth(pair[0]), 0);
            test.due("depth(" + pair[1] + ") of equal ranks", z.depth(pair[1]), 1);
        }
    }

    private static void depthOfNeighboursInRank(Due test) {
        List<Integer> keys = new ArrayList<>();
        for (int key = 0; key < 4096; key++) {
            keys.add(key);
        }
        keys.sort(Comparator.comparingLong(Model::height));
        for (int i = 1; i < 4096; i++) {
            int lower = keys.get(i - 1);
            int higher = keys.get(i);
            FencedTreeHeap x = new FencedTreeHeap();
            x.put(higher, 1);
            x.put(lower, 1);
            test.due("depth(" + higher + ") above " + lower, x.depth(higher), 0);
            test.due("depth(" + lower + ") below " + higher, x.depth(lower), 1);
        }
    }

    private static void size(Due test) {
        FencedTreeHeap x = new FencedTreeHeap();
        for (int i = 0; i < 30; i++) {
            x.put(100 * i, 1);
            test.due("size()", x.size(), i + 1);
        }
        x.put(100, 2);
        test.due("size() after another value", x.size(), 30);
        for (int i = 29; i >= 0; i--) {
            x.remove(100 * i);
            test.due("size()", x.size(), i);
        }
    }

    private static void whileDown(Due test) {
        FencedTreeHeap x = some();
        x.crash();
        int[] keys = {0, 1, -1, 5000};
        for (int key : keys) {
            test.due("get while down", x.get(key), FencedTreeHeap.DOWN);
            test.due("next while down", x.next(key), FencedTreeHeap.DOWN);
            test.due("depth while down", x.depth(key), FencedTreeHeap.DOWN);
        }
        test.due("size while down", x.size(), FencedTreeHeap.DOWN);
        x.restart(false);
        test.due("get after it", x.get(0), 10);
        test.due("next after it", x.next(1), 7);
        test.due("depth after it", x.depth(0), 3);
        test.due("size after it", x.size(), 4);
    }
}
