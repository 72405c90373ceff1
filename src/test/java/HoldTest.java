/** Promises 10 to 13: hold, release, heldGet and heldNext. */
public final class HoldTest {
    private static final int[] NO_SLOTS = {-1, 2, 3, Integer.MIN_VALUE, Integer.MAX_VALUE};

    public static void main(String[] args) {
        Due test = new Due("HoldTest");
        holdAndRelease(test);
        wrongSlots(test);
        heldStateStays(test);
        emptyState(test);
        slotsAreApart(test);
        heldNext(test);
        noEvents(test);
        whileDown(test);
        gone(test);
        test.finish();
    }

    private static void holdAndRelease(Due test) {
        FencedTreeHeap x = new FencedTreeHeap();
        x.put(1, 10);
        for (int slot = 0; slot < 2; slot++) {
            test.due("release of none", x.release(slot), false);
            test.due("hold", x.hold(slot), true);
            x.put(1, 20 + slot);
            test.due("hold again", x.hold(slot), false);
            test.due("release", x.release(slot), true);
            test.due("release again", x.release(slot), false);
            test.due("heldGet of none", x.heldGet(slot, 1), FencedTreeHeap.BAD);
            test.due("hold anew", x.hold(slot), true);
            test.due("heldGet", x.heldGet(slot, 1), 20 + slot);
        }
    }

    private static void wrongSlots(Due test) {
        FencedTreeHeap x = new FencedTreeHeap();
        x.put(1, 10);
        x.hold(0);
        x.hold(1);
        String before = Due.seen(x);
        for (int slot : NO_SLOTS) {
            test.due("hold(" + slot + ")", x.hold(slot), false);
            test.due("release(" + slot + ")", x.release(slot), false);
            test.due("heldGet(" + slot + ", 1)", x.heldGet(slot, 1), FencedTreeHeap.BAD);
            test.due("heldGet(" + slot + ", -1)", x.heldGet(slot, -1), FencedTreeHeap.BAD);
            test.due("heldNext(" + slot + ", 1)", x.heldNext(slot, 1), FencedTreeHeap.BAD);
            test.due("heldNext(" + slot + ", 5000)", x.heldNext(slot, 5000), FencedTreeHeap.BAD);
        }
        test.dueSame("calls with wrong slots", x, before);
    }

    private static void heldStateStays(Due test) {
        FencedTreeHeap x = Chain.full();
        x.hold(1);
        test.due("hold(1) of a full one", x.hold(1), false);
        x.put(Chain.KEYS[0], 2);
        x.remove(Chain.KEYS[1]);
        x.put(Chain.KEYS[2], 3);
        for (int key : Chain.KEYS) {
            test.due("heldGet(1, " + key + ")", x.heldGet(1, key), 1);
            test.due("heldNext(1, " + key + ")", x.heldNext(1, key), key);
        }
        test.due("get of another value", x.get(Chain.KEYS[0]), 2);
        test.due("get of one removed", x.get(Chain.KEYS[1]), FencedTreeHeap.ABSENT);
        int[] absent = {-1, 0, 29, 4095, 4096, Integer.MIN_VALUE, Integer.MAX_VALUE};
        for (int key : absent) {
            test.due("heldGet(1, " + key + ")", x.heldGet(1, key), FencedTreeHeap.ABSENT);
        }
    }

    private static void emptyState(Due test) {
        FencedTreeHeap x = new FencedTreeHeap();
        test.due("hold(0)", x.hold(0), true);
        test.due("hold(0) again", x.hold(0), false);
        x.put(1, 10);
        test.due("heldGet(0, 1)", x.heldGet(0, 1), FencedTreeHeap.ABSENT);
        test.due("heldNext(0, 0)", x.heldNext(0, 0), FencedTreeHeap.ABSENT);
        test.due("nodes()", x.nodes(), 1);
        test.due("release(0)", x.release(0), true);
        test.due("heldNext(0, 0)", x.heldNext(0, 0), FencedTreeHeap.BAD);
    }

    private static void slotsAreApart(Due test) {
        FencedTreeHeap x = new FencedTreeHeap();
        x.put(1, 10);
        x.hold(0);
        x.put(1, 20);
        x.put(2, 30);
        x.hold(1);
        x.put(1, 40);
        test.due("heldGet(0, 1)", x.heldGet(0, 1), 10);
        test.due("heldGet(1, 1)", x.heldGet(1, 1), 20);
        test.due("heldGet(0, 2)", x.heldGet(0, 2), FencedTreeHeap.ABSENT);
        test.due("heldGet(1, 2)", x.heldGet(1, 2), 30);
        x.release(0);
        test.due("heldGet(0, 1)", x.heldGet(0, 1), FencedTreeHeap.BAD);
        test.due("heldGet(1, 1)", x.heldGet(1, 1), 20);
    }

    private static void heldNext(Due test) {
        FencedTreeHeap x = new FencedTreeHeap();
        x.put(0, 1);
        x.put(50, 1);
        x.put(4095, 1);
        x.hold(0);
        x.remove(50);
        x.put(49, 1);
        int[][] pairs = {
            {Integer.MIN_VALUE, 0}, {-1, 0}, {0, 0}, {1, 50}, {49, 50}, {50, 50}, {51, 4095},
            {4095, 4095}, {4096, FencedTreeHeap.ABSENT}, {Integer.MAX_VALUE, FencedTreeHeap.ABSENT},
        };
        for (int[] pair : pairs) {
            test.due("heldNext(0, " + pair[0] + ")", x.heldNext(0, pair[0]), pair[1]);
        }
    }

    private static void noEvents(Due test) {
        FencedTreeHeap x = new FencedTreeHeap();
        x.put(1, 1);
        x.cut(0);
        x.hold(0);
        x.heldGet(0, 1);
        x.heldNext(0, 1);
        x.release(0);
        test.due("events()", x.events(), 9);
        test.due("size()", x.size(), 1);
    }

    private static void whileDown(Due test) {
        FencedTreeHeap x = new FencedTreeHeap();
        x.put(1, 1);
        x.hold(0);
        x.crash();
        test.due("hold(1)", x.hold(1), false);
        test.due("release(0)", x.release(0), false);
        test.due("heldGet(0, 1)", x.heldGet(0, 1), FencedTreeHeap.DOWN);
        test.due("heldGet(1, 1)", x.heldGet(1, 1), FencedTreeHeap.DOWN);
        test.due("heldGet(2, 1)", x.heldGet(2, 1), FencedTreeHeap.DOWN);
        test.due("heldNext(0, 1)", x.heldNext(0, 1), FencedTreeHeap.DOWN);
        test.due("heldNext(1, 1)", x.heldNext(1, 1), FencedTreeHeap.DOWN);
        test.due("heldNext(-1, 1)", x.heldNext(-1, 1), FencedTreeHeap.DOWN);
        x.restart(false);
        test.due("heldGet(1, 1), not held while down", x.heldGet(1, 1), FencedTreeHeap.BAD);
    }

    private static void gone(Due test) {
        FencedTreeHeap x = new FencedTreeHeap();
        x.put(1, 1);
        for (int way = 0; way < 2; way++) {
            x.hold(0);
            x.hold(1);
            if (way == 0) {
                x.crash();
            } else {
                x.cut(0);
                x.put(2, 2);
            }
            x.restart(way == 1);
            for (int slot = 0; slot < 2; slot++) {
                test.due("heldGet", x.heldGet(slot, 1), FencedTreeHeap.BAD);
                test.due("heldNext", x.heldNext(slot, 1), FencedTreeHeap.BAD);
                test.due("release", x.release(slot), false);
            }
        }
        test.due("hold(0)", x.hold(0), true);
        test.due("hold(1)", x.hold(1), true);
    }
}
