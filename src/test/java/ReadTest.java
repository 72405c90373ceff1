/** Promises 5 to 8: get, next, depth and size. */
public final class ReadTest {
    private static final int[] NOT_THERE = {-1, 1, 8, 10, 4094, 4096, Integer.MIN_VALUE, Integer.MAX_VALUE};

    public static void main(String[] args) {
        Due test = new Due("ReadTest");
        get(test);
        getAbsent(test);
        next(test);
        nextOfAnyInt(test);
        nextOfNone(test);
        depth(test);
        depthAbsent(test);
        size(test);
        getWhileDown(test);
        nextWhileDown(test);
        depthWhileDown(test);
        sizeWhileDown(test);
        test.finish();
    }

    private static FencedTreeHeap some() {
        FencedTreeHeap x = new FencedTreeHeap();
        x.put(0, 10);
        x.put(9, 0);
        x.put(4095, 999999999);
        x.put(7, 30);
        return x;
    }

    private static void get(Due test) {
        test.sentence("The value of a key.");
        FencedTreeHeap x = some();
        test.due("get(0)", x.get(0), 10);
        test.due("get(9)", x.get(9), 0);
        test.due("get(4095)", x.get(4095), 999999999);
        test.due("get(7)", x.get(7), 30);
        x.put(9, 5);
        test.due("get(9)", x.get(9), 5);
        x.put(9, 0);
        test.due("get(9)", x.get(9), 0);
    }

    private static void getAbsent(Due test) {
        test.sentence("The value of a key. Or DOWN; ABSENT.");
        FencedTreeHeap x = some();
        for (int key : NOT_THERE) {
            test.due("get(" + key + ")", x.get(key), FencedTreeHeap.ABSENT);
        }
        x.remove(9);
        test.due("get(9)", x.get(9), FencedTreeHeap.ABSENT);
        FencedTreeHeap y = new FencedTreeHeap();
        for (int key = 0; key < 400; key++) {
            test.due("get(" + key + ") of none", y.get(key), FencedTreeHeap.ABSENT);
        }
    }

    private static void next(Due test) {
        test.sentence("The least key in the map that is this one or greater");
        FencedTreeHeap x = some();
        int[][] pairs = {{0, 0}, {1, 7}, {6, 7}, {7, 7}, {8, 9}, {9, 9}, {10, 4095}, {4094, 4095}, {4095, 4095}};
        for (int[] pair : pairs) {
            test.due("next(" + pair[0] + ")", x.next(pair[0]), pair[1]);
        }
        x.remove(0);
        test.due("next(0)", x.next(0), 7);
        FencedTreeHeap y = Chain.full();
        for (int i = 0; i < 29; i++) {
            test.due("next", y.next(Chain.KEYS[i]), Chain.KEYS[i]);
            test.due("next of one more", y.next(Chain.KEYS[i] + 1), Chain.KEYS[i + 1]);
            test.due("next of one less", y.next(Chain.KEYS[i] - 1), Chain.KEYS[i]);
        }
    }

    private static void nextOfAnyInt(Due test) {
        test.sentence("(the number may be any int)");
        FencedTreeHeap x = some();
        int[] below = {Integer.MIN_VALUE, Integer.MIN_VALUE + 1, -4096, -2, -1};
        for (int key : below) {
            test.due("next(" + key + ")", x.next(key), 0);
        }
        int[] beyond = {4096, 4097, 65536, Integer.MAX_VALUE - 1, Integer.MAX_VALUE};
        for (int key : beyond) {
            test.due("next(" + key + ")", x.next(key), FencedTreeHeap.ABSENT);
        }
    }

    private static void nextOfNone(Due test) {
        test.sentence("Or DOWN; ABSENT when there is none.");
        FencedTreeHeap x = some();
        x.remove(4095);
        test.due("next(9)", x.next(9), 9);
        test.due("next(10)", x.next(10), FencedTreeHeap.ABSENT);
        test.due("next(4095)", x.next(4095), FencedTreeHeap.ABSENT);
        FencedTreeHeap y = new FencedTreeHeap();
        int[] keys = {Integer.MIN_VALUE, -1, 0, 4095, Integer.MAX_VALUE};
        for (int key : keys) {
            test.due("next(" + key + ") of none", y.next(key), FencedTreeHeap.ABSENT);
        }
        FencedTreeHeap z = Chain.full();
        test.due("next beyond 30 keys", z.next(Chain.KEYS[29] + 1), FencedTreeHeap.ABSENT);
    }

    // Ranks: 4095 has 943808, 9 has 824632, 7 has 678323, 0 has 532604.
    private static void depth(Due test) {
        test.sentence("The DEPTH of a key.");
        FencedTreeHeap x = some();
        test.due("depth(4095)", x.depth(4095), 0);
        test.due("depth(9)", x.depth(9), 1);
        test.due("depth(7)", x.depth(7), 2);
        test.due("depth(0)", x.depth(0), 3);
        x.put(9, 77);
        test.due("depth(0) after another value", x.depth(0), 3);
        x.remove(9);
        test.due("depth(0) without 9", x.depth(0), 2);
        FencedTreeHeap y = Chain.full();
        for (int i = 0; i < 30; i++) {
            test.due("depth in a chain", y.depth(Chain.KEYS[i]), i);
        }
    }

    private static void depthAbsent(Due test) {
        test.sentence("The DEPTH of a key. Or DOWN; ABSENT.");
        FencedTreeHeap x = some();
        for (int key : NOT_THERE) {
            test.due("depth(" + key + ")", x.depth(key), FencedTreeHeap.ABSENT);
        }
        x.remove(4095);
        test.due("depth(4095)", x.depth(4095), FencedTreeHeap.ABSENT);
        test.due("depth(0) of none", new FencedTreeHeap().depth(0), FencedTreeHeap.ABSENT);
    }

    private static void size(Due test) {
        test.sentence("How many keys the map has.");
        FencedTreeHeap x = new FencedTreeHeap();
        test.due("size() of none", x.size(), 0);
        for (int i = 0; i < 30; i++) {
            x.put(100 * i, 1);
            test.due("size()", x.size(), i + 1);
        }
        x.put(100, 2);
        test.due("size() after another value", x.size(), 30);
        x.put(1, 2);
        test.due("size() after a refused key", x.size(), 30);
        for (int i = 29; i >= 0; i--) {
            x.remove(100 * i);
            test.due("size()", x.size(), i);
        }
    }

    private static final int[] ASKED_DOWN = {0, 1, 9, -1, 4096, Integer.MIN_VALUE, Integer.MAX_VALUE};

    private static FencedTreeHeap someDown() {
        FencedTreeHeap x = some();
        x.crash();
        return x;
    }

    private static void getWhileDown(Due test) {
        test.sentence("The value of a key. Or DOWN; ABSENT.");
        FencedTreeHeap x = someDown();
        for (int key : ASKED_DOWN) {
            test.due("get(" + key + ") while down", x.get(key), FencedTreeHeap.DOWN);
        }
        x.restart(false);
        test.due("get(0) after it", x.get(0), 10);
    }

    private static void nextWhileDown(Due test) {
        test.sentence("Or DOWN; ABSENT when there is none.");
        FencedTreeHeap x = someDown();
        for (int key : ASKED_DOWN) {
            test.due("next(" + key + ") while down", x.next(key), FencedTreeHeap.DOWN);
        }
        x.restart(false);
        test.due("next(1) after it", x.next(1), 7);
    }

    private static void depthWhileDown(Due test) {
        test.sentence("The DEPTH of a key. Or DOWN; ABSENT.");
        FencedTreeHeap x = someDown();
        for (int key : ASKED_DOWN) {
            test.due("depth(" + key + ") while down", x.depth(key), FencedTreeHeap.DOWN);
        }
        x.restart(false);
        test.due("depth(0) after it", x.depth(0), 3);
    }

    private static void sizeWhileDown(Due test) {
        test.sentence("How many keys the map has. Or DOWN.");
        FencedTreeHeap x = someDown();
        test.due("size() while down", x.size(), FencedTreeHeap.DOWN);
        x.restart(false);
        test.due("size() after it", x.size(), 4);
        FencedTreeHeap y = new FencedTreeHeap();
        y.crash();
        test.due("size() while down with no keys", y.size(), FencedTreeHeap.DOWN);
        y.restart(true);
        y.cut(0);
        y.put(1, 1);
        test.due("size() after a cut", y.size(), FencedTreeHeap.DOWN);
    }
}
