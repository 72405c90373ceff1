/** Promises 10 to 13: hold, release, heldGet and heldNext. */
public final class HoldTest {
    private static final int[] NO_SLOTS = {-1, 2, 3, 65536, Integer.MIN_VALUE, Integer.MAX_VALUE};

    public static void main(String[] args) {
        Due test = new Due("HoldTest");
        holdsTheMapAsItIs(test);
        holdsNoKeys(test);
        slotsAreApart(test);
        holdWhileDown(test);
        holdInNoSlot(test);
        holdInATakenSlot(test);
        heldNoMore(test);
        releaseWhileDown(test);
        releaseOfNone(test);
        heldGet(test);
        heldGetRefused(test);
        heldNext(test);
        heldNextRefused(test);
        noEvents(test);
        test.finish();
    }

    private static void holdsTheMapAsItIs(Due test) {
        test.sentence("Holds the map as it is in a slot.");
        for (int slot = 0; slot < 2; slot++) {
            FencedTreeHeap x = Chain.full();
            test.due("hold(" + slot + ")", x.hold(slot), true);
            x.put(Chain.KEYS[0], 2);
            x.remove(Chain.KEYS[1]);
            x.put(Chain.KEYS[2], 3);
            for (int key : Chain.KEYS) {
                test.due("heldGet(" + slot + ", " + key + ")", x.heldGet(slot, key), 1);
                test.due("heldNext(" + slot + ", " + key + ")", x.heldNext(slot, key), key);
            }
            test.due("get of another value", x.get(Chain.KEYS[0]), 2);
            test.due("get of one removed", x.get(Chain.KEYS[1]), FencedTreeHeap.ABSENT);
            test.due("get of another value", x.get(Chain.KEYS[2]), 3);
        }
    }

    private static void holdsNoKeys(Due test) {
        test.sentence("Holds the map as it is in a slot.");
        FencedTreeHeap x = new FencedTreeHeap();
        test.due("hold(0) of none", x.hold(0), true);
        test.due("hold(0) again", x.hold(0), false);
        x.put(1, 10);
        test.due("heldGet(0, 1)", x.heldGet(0, 1), FencedTreeHeap.ABSENT);
        test.due("heldNext(0, 0)", x.heldNext(0, 0), FencedTreeHeap.ABSENT);
        test.due("nodes()", x.nodes(), 1);
        test.due("release(0)", x.release(0), true);
        test.due("heldNext(0, 0)", x.heldNext(0, 0), FencedTreeHeap.BAD);
        test.due("hold(0) of one", x.hold(0), true);
        x.remove(1);
        test.due("heldGet(0, 1)", x.heldGet(0, 1), 10);
    }

    private static void slotsAreApart(Due test) {
        test.sentence("Holds the map as it is in a slot.");
        FencedTreeHeap x = new FencedTreeHeap();
        x.put(1, 10);
        x.hold(0);
        x.put(1, 20);
        x.put(2, 30);
        x.hold(1);
        x.put(1, 40);
        test.due("heldGet(0, 1)", x.heldGet(0, 1), 10);
        test.due("heldGet(1, 1)", x.heldGet(1, 1), 20);
        test.due("heldGet(0, 2)", x.heldGet(0, 2), FencedTreeHeap.ABSENT);
        test.due("heldGet(1, 2)", x.heldGet(1, 2), 30);
        x.release(0);
        test.due("heldGet(0, 1)", x.heldGet(0, 1), FencedTreeHeap.BAD);
        test.due("heldGet(1, 1)", x.heldGet(1, 1), 20);
        x.hold(0);
        test.due("heldGet(0, 1)", x.heldGet(0, 1), 40);
        x.release(1);
        test.due("heldGet(0, 1)", x.heldGet(0, 1), 40);
        test.due("heldGet(1, 1)", x.heldGet(1, 1), FencedTreeHeap.BAD);
    }

    private static final String HOLD_FALSE =
        "Answers true; false when the machine is DOWN, there is no such slot, or a state is held in it.";

    private static void holdWhileDown(Due test) {
        test.sentence(HOLD_FALSE);
        for (int way = 0; way < 2; way++) {
            FencedTreeHeap x = new FencedTreeHeap();
            x.put(1, 1);
            if (way == 0) {
                x.crash();
            } else {
                x.cut(3);
                x.put(1, 2);
            }
            test.due("hold(0)", x.hold(0), false);
            test.due("hold(1)", x.hold(1), false);
            test.due("hold(2)", x.hold(2), false);
            x.restart(false);
            test.due("heldGet(0, 1), not held", x.heldGet(0, 1), FencedTreeHeap.BAD);
            test.due("hold(0)", x.hold(0), true);
            test.due("hold(1)", x.hold(1), true);
        }
    }

    private static void holdInNoSlot(Due test) {
        test.sentence(HOLD_FALSE);
        FencedTreeHeap x = new FencedTreeHeap();
        x.put(1, 10);
        String before = Due.seen(x);
        for (int slot : NO_SLOTS) {
            test.due("hold(" + slot + ")", x.hold(slot), false);
        }
        test.dueSame("holds in no slot", x, before);
    }

    private static void holdInATakenSlot(Due test) {
        test.sentence(HOLD_FALSE);
        FencedTreeHeap x = new FencedTreeHeap();
        x.put(1, 10);
        for (int slot = 0; slot < 2; slot++) {
            test.due("hold(" + slot + ")", x.hold(slot), true);
            test.due("hold(" + slot + ") of the same", x.hold(slot), false);
            x.put(1, 20 + slot);
            test.due("hold(" + slot + ") of another", x.hold(slot), false);
            test.due("heldGet(" + slot + ", 1)", x.heldGet(slot, 1), slot == 0 ? 10 : 20);
        }
    }

    private static void heldNoMore(Due test) {
        test.sentence("The state in the slot is held no more.");
        for (int slot = 0; slot < 2; slot++) {
            FencedTreeHeap x = Chain.full();
            x.hold(slot);
            x.put(Chain.KEYS[29], 2);
            test.due("nodes()", x.nodes(), 60);
            test.due("release(" + slot + ")", x.release(slot), true);
            test.due("nodes()", x.nodes(), 30);
            test.due("heldGet(" + slot + ", 28)", x.heldGet(slot, 28), FencedTreeHeap.BAD);
            test.due("heldNext(" + slot + ", 28)", x.heldNext(slot, 28), FencedTreeHeap.BAD);
            test.due("put of 30 new nodes", x.put(Chain.KEYS[29], 3), 30);
            test.due("hold(" + slot + ")", x.hold(slot), true);
            test.due("heldGet(" + slot + ", foot)", x.heldGet(slot, Chain.KEYS[29]), 3);
        }
    }

    private static final String RELEASE_FALSE =
        "Answers true; false when the machine is DOWN, there is no such slot, or none is held in it.";

    private static void releaseWhileDown(Due test) {
        test.sentence(RELEASE_FALSE);
        FencedTreeHeap x = new FencedTreeHeap();
        x.put(1, 1);
        x.hold(0);
        x.crash();
        test.due("release(0)", x.release(0), false);
        test.due("release(1)", x.release(1), false);
        test.due("release(2)", x.release(2), false);
        x.restart(true);
        test.due("release(0)", x.release(0), false);
        x.hold(0);
        x.cut(2);
        x.put(1, 2);
        test.due("release(0) after a cut", x.release(0), false);
    }

    private static void releaseOfNone(Due test) {
        test.sentence(RELEASE_FALSE);
        FencedTreeHeap x = new FencedTreeHeap();
        x.put(1, 1);
        for (int slot = 0; slot < 2; slot++) {
            test.due("release(" + slot + ") of none", x.release(slot), false);
            x.hold(slot);
            test.due("release(" + (1 - slot) + ") of none", x.release(1 - slot), false);
            test.due("release(" + slot + ")", x.release(slot), true);
            test.due("release(" + slot + ") again", x.release(slot), false);
        }
        x.hold(0);
        x.hold(1);
        for (int slot : NO_SLOTS) {
            test.due("release(" + slot + ")", x.release(slot), false);
        }
        test.due("heldGet(0, 1)", x.heldGet(0, 1), 1);
        test.due("heldGet(1, 1)", x.heldGet(1, 1), 1);
    }

    private static void heldGet(Due test) {
        test.sentence("The value of a key in the state that is held in a slot.");
        FencedTreeHeap x = new FencedTreeHeap();
        x.put(0, 999999999);
        x.put(50, 0);
        x.put(4095, 7);
        x.hold(1);
        x.remove(0);
        x.put(50, 1);
        x.put(51, 1);
        test.due("heldGet(1, 0)", x.heldGet(1, 0), 999999999);
        test.due("heldGet(1, 50)", x.heldGet(1, 50), 0);
        test.due("heldGet(1, 4095)", x.heldGet(1, 4095), 7);
    }

    private static void heldGetRefused(Due test) {
        test.sentence("Or DOWN; BAD when none is held there or there is no such slot; ABSENT.");
        FencedTreeHeap x = new FencedTreeHeap();
        x.put(1, 10);
        test.due("heldGet(0, 1) of none", x.heldGet(0, 1), FencedTreeHeap.BAD);
        test.due("heldGet(1, 1) of none", x.heldGet(1, 1), FencedTreeHeap.BAD);
        x.hold(0);
        x.put(2, 20);
        test.due("heldGet(1, 1) of none", x.heldGet(1, 1), FencedTreeHeap.BAD);
        for (int slot : NO_SLOTS) {
            test.due("heldGet(" + slot + ", 1)", x.heldGet(slot, 1), FencedTreeHeap.BAD);
            test.due("heldGet(" + slot + ", -1)", x.heldGet(slot, -1), FencedTreeHeap.BAD);
        }
        int[] absent = {-1, 0, 2, 4095, 4096, Integer.MIN_VALUE, Integer.MAX_VALUE};
        for (int key : absent) {
            test.due("heldGet(0, " + key + ")", x.heldGet(0, key), FencedTreeHeap.ABSENT);
        }
        x.crash();
        for (int slot = -1; slot <= 2; slot++) {
            test.due("heldGet(" + slot + ", 1)", x.heldGet(slot, 1), FencedTreeHeap.DOWN);
            test.due("heldGet(" + slot + ", -1)", x.heldGet(slot, -1), FencedTreeHeap.DOWN);
        }
    }

    private static void heldNext(Due test) {
        test.sentence("The least key in the held state that is this one or greater.");
        FencedTreeHeap x = new FencedTreeHeap();
        x.put(0, 1);
        x.put(50, 1);
        x.put(4095, 1);
        x.hold(0);
        x.remove(50);
        x.put(49, 1);
        int[][] pairs = {
            {Integer.MIN_VALUE, 0}, {-1, 0}, {0, 0}, {1, 50}, {49, 50}, {50, 50}, {51, 4095},
            {4095, 4095}, {4096, FencedTreeHeap.ABSENT}, {Integer.MAX_VALUE, FencedTreeHeap.ABSENT},
        };
        for (int[] pair : pairs) {
            test.due("heldNext(0, " + pair[0] + ")", x.heldNext(0, pair[0]), pair[1]);
        }
    }

    private static void heldNextRefused(Due test) {
        test.sentence("Or DOWN; BAD when none is held there or there is no such slot; ABSENT when there is none.");
        FencedTreeHeap x = new FencedTreeHeap();
        x.put(1, 10);
        test.due("heldNext(0, 1) of none", x.heldNext(0, 1), FencedTreeHeap.BAD);
        test.due("heldNext(1, 1) of none", x.heldNext(1, 1), FencedTreeHeap.BAD);
        x.hold(1);
        x.put(2, 20);
        test.due("heldNext(0, 1) of none", x.heldNext(0, 1), FencedTreeHeap.BAD);
        for (int slot : NO_SLOTS) {
            test.due("heldNext(" + slot + ", 1)", x.heldNext(slot, 1), FencedTreeHeap.BAD);
            test.due("heldNext(" + slot + ", 5000)", x.heldNext(slot, 5000), FencedTreeHeap.BAD);
        }
        int[] beyond = {2, 4095, 4096, Integer.MAX_VALUE};
        for (int key : beyond) {
            test.due("heldNext(1, " + key + ")", x.heldNext(1, key), FencedTreeHeap.ABSENT);
        }
        x.crash();
        for (int slot = -1; slot <= 2; slot++) {
            test.due("heldNext(" + slot + ", 1)", x.heldNext(slot, 1), FencedTreeHeap.DOWN);
            test.due("heldNext(" + slot + ", 2)", x.heldNext(slot, 2), FencedTreeHeap.DOWN);
        }
    }

    private static void noEvents(Due test) {
        test.sentence("Holds the map as it is in a slot.");
        FencedTreeHeap x = new FencedTreeHeap();
        x.put(1, 1);
        x.cut(0);
        x.hold(0);
        x.heldGet(0, 1);
        x.heldNext(0, 1);
        x.release(0);
        test.due("events()", x.events(), 9);
        test.due("size()", x.size(), 1);
    }
}
