/** "Terms": the limits of keys, values, the map, the slots and the heap, and of an object's use. */
public final class TermsLimitsTest {
    private static final int[] NO_KEYS = {
        -1, -2, -4096, 4096, 4097, 8192, 65536, Integer.MIN_VALUE, Integer.MIN_VALUE + 5, Integer.MAX_VALUE,
    };
    private static final int[] NO_VALUES = {
        -1, -2, -5, 1000000000, 1000000001, Integer.MIN_VALUE, Integer.MAX_VALUE,
    };

    public static void main(String[] args) {
        Due test = new Due("TermsLimitsTest");
        keys(test);
        noKeys(test);
        values(test);
        noValues(test);
        thirtyKeys(test);
        thirtyKeysAfterACut(test);
        slots(test);
        heapOfAPut(test);
        heapOfARemove(test);
        heapOverAndOver(test);
        calls(test);
        test.finish();
    }

    private static void keys(Due test) {
        test.sentence("KEYS are 0 .. 4095");
        for (int key = 0; key <= 4095; key++) {
            FencedTreeHeap x = new FencedTreeHeap();
            test.due("put(" + key + ", 7)", x.put(key, 7), 1);
            test.due("get(" + key + ")", x.get(key), 7);
            test.due("next(" + key + ")", x.next(key), key);
            test.due("depth(" + key + ")", x.depth(key), 0);
            test.due("remove(" + key + ")", x.remove(key), 0);
        }
    }

    private static void noKeys(Due test) {
        test.sentence("KEYS are 0 .. 4095");
        FencedTreeHeap x = new FencedTreeHeap();
        x.put(0, 1);
        x.put(5, 1);
        x.put(4095, 1);
        x.hold(0);
        for (int key : NO_KEYS) {
            test.due("put(" + key + ", 1)", x.put(key, 1), FencedTreeHeap.BAD);
            test.due("get(" + key + ")", x.get(key), FencedTreeHeap.ABSENT);
            test.due("depth(" + key + ")", x.depth(key), FencedTreeHeap.ABSENT);
            test.due("remove(" + key + ")", x.remove(key), FencedTreeHeap.ABSENT);
            test.due("heldGet(0, " + key + ")", x.heldGet(0, key), FencedTreeHeap.ABSENT);
        }
        test.due("size()", x.size(), 3);
    }

    private static void values(Due test) {
        test.sentence("VALUES 0 .. 999999999");
        int[] values = {0, 1, 65536, 999999998, 999999999};
        FencedTreeHeap x = new FencedTreeHeap();
        for (int value : values) {
            test.due("put(5, " + value + ")", x.put(5, value), 1);
            test.due("get(5)", x.get(5), value);
            x.hold(0);
            test.due("heldGet(0, 5)", x.heldGet(0, 5), value);
            x.release(0);
        }
    }

    private static void noValues(Due test) {
        test.sentence("VALUES 0 .. 999999999");
        FencedTreeHeap x = new FencedTreeHeap();
        x.put(5, 1);
        for (int value : NO_VALUES) {
            test.due("put(5, " + value + ")", x.put(5, value), FencedTreeHeap.BAD);
            test.due("get(5)", x.get(5), 1);
            test.due("put(6, " + value + ")", x.put(6, value), FencedTreeHeap.BAD);
            test.due("get(6)", x.get(6), FencedTreeHeap.ABSENT);
        }
        test.due("size()", x.size(), 1);
    }

    private static void thirtyKeys(Due test) {
        test.sentence("the map has at most 30 keys");
        int[] more = {0, 29, 100, 700, 1181, 2000, 3700, 4095};
        for (int[] shape : Chain.SHAPES) {
            FencedTreeHeap x = new FencedTreeHeap();
            for (int i = 0; i < 30; i++) {
                test.due("put of key " + (i + 1), x.put(shape[i], 1), i + 1);
            }
            for (int key : more) {
                test.due("put(" + key + ", 1) as key 31", x.put(key, 1), FencedTreeHeap.FULL);
                test.due("get(" + key + ")", x.get(key), FencedTreeHeap.ABSENT);
            }
            test.due("size()", x.size(), 30);
            test.due("put of another value", x.put(shape[7], 2), 8);
            test.due("put of the same value", x.put(shape[7], 2), 0);
            for (int key : more) {
                x.remove(shape[29]);
                test.due("put(" + key + ", 1) as key 30", x.put(key, 1) >= 1, true);
                test.due("put of key 31", x.put(shape[29], 1), FencedTreeHeap.FULL);
                x.remove(key);
                x.put(shape[29], 1);
            }
        }
    }

    private static void thirtyKeysAfterACut(Due test) {
        test.sentence("the map has at most 30 keys");
        for (int way = 0; way < 2; way++) {
            FencedTreeHeap x = Chain.first(29);
            // 30 new nodes: with 152 events the root word is stored, but not flushed.
            x.cut(152);
            test.due("put of key 30", x.put(Chain.KEYS[29], 1), FencedTreeHeap.CUT);
            test.due("restart", x.restart(way == 1), 29 + way);
            test.due("put(0, 1)", x.put(0, 1) == FencedTreeHeap.FULL, way == 1);
            test.due("put(1, 1)", x.put(1, 1), FencedTreeHeap.FULL);
            test.due("size()", x.size(), 30);
        }
    }

    private static void slots(Due test) {
        test.sentence("A state may be HELD in a slot, 0 or 1, with its nodes.");
        int[] none = {-1, -2, 2, 3, 256, 65536, Integer.MIN_VALUE, Integer.MIN_VALUE + 1, Integer.MAX_VALUE};
        FencedTreeHeap x = new FencedTreeHeap();
        x.put(5, 1);
        for (int slot : none) {
            test.due("hold(" + slot + ")", x.hold(slot), false);
        }
        test.due("hold(0)", x.hold(0), true);
        x.put(5, 2);
        test.due("nodes() with those of slot 0", x.nodes(), 2);
        test.due("hold(1)", x.hold(1), true);
        x.put(5, 3);
        test.due("nodes() with those of both slots", x.nodes(), 3);
        for (int slot : none) {
            test.due("hold(" + slot + ")", x.hold(slot), false);
            test.due("heldGet(" + slot + ", 5)", x.heldGet(slot, 5), FencedTreeHeap.BAD);
            test.due("heldNext(" + slot + ", 5)", x.heldNext(slot, 5), FencedTreeHeap.BAD);
            test.due("release(" + slot + ")", x.release(slot), false);
        }
        test.due("heldGet(0, 5)", x.heldGet(0, 5), 1);
        test.due("heldGet(1, 5)", x.heldGet(1, 5), 2);
    }

    // 30 nodes are held and the map has 30 others: 60 are in use.
    private static FencedTreeHeap with60(int[] shape) {
        FencedTreeHeap x = Chain.full(shape);
        x.hold(0);
        x.put(shape[29], 2);
        return x;
    }

    private static void heapOfAPut(Due test) {
        test.sentence("The heap has 64 nodes.");
        for (int[] shape : Chain.SHAPES) {
            for (int depth = 0; depth < 30; depth++) {
                FencedTreeHeap x = with60(shape);
                test.due("nodes()", x.nodes(), 60);
                boolean fits = depth + 1 <= 4;
                test.due("put at depth " + depth, x.put(shape[depth], 9), fits ? depth + 1 : FencedTreeHeap.FULL);
                test.due("get", x.get(shape[depth]), fits ? 9 : depth == 29 ? 2 : 1);
                test.due("nodes() then", x.nodes(), 60);
            }
        }
    }

    private static void heapOfARemove(Due test) {
        test.sentence("The heap has 64 nodes.");
        for (int[] shape : Chain.SHAPES) {
            for (int depth = 0; depth < 30; depth++) {
                FencedTreeHeap x = with60(shape);
                boolean fits = depth <= 4;
                test.due("remove at depth " + depth, x.remove(shape[depth]), fits ? depth : FencedTreeHeap.FULL);
                test.due("size()", x.size(), fits ? 29 : 30);
                test.due("nodes()", x.nodes(), fits ? 59 : 60);
            }
        }
    }

    // What is in use no more can be used again, as often as one likes.
    private static void heapOverAndOver(Due test) {
        test.sentence("The heap has 64 nodes.");
        FencedTreeHeap x = with60(Chain.KEYS);
        x.hold(1);
        test.due("put, 64 in use", x.put(Chain.KEYS[3], 5), 4);
        test.due("nodes()", x.nodes(), 64);
        test.due("put, 65", x.put(Chain.KEYS[0], 5), FencedTreeHeap.FULL);
        for (int i = 0; i < 60; i++) {
            test.due("release(1)", x.release(1), true);
            test.due("nodes()", x.nodes(), 60);
            test.due("hold(1)", x.hold(1), true);
            test.due("put, 64 again", x.put(Chain.KEYS[3], 6 + i), 4);
            test.due("nodes() again", x.nodes(), 64);
            test.due("put, 65", x.put(Chain.KEYS[0], 6 + i), FencedTreeHeap.FULL);
        }
    }

    private static void calls(Due test) {
        test.sentence("An object is used for at most 512 calls after it has been made");
        FencedTreeHeap x = Chain.full();
        int events = x.events();
        for (int i = 1; i <= 480; i++) {
            test.due("the dearest put, " + i, x.put(Chain.KEYS[29], 1 + i), 30);
        }
        test.due("events()", x.events(), events + 480 * 154);
    }
}
