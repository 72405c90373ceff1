/** "Terms": which nodes a change makes, which are kept, and which are in use. */
public final class TermsChangeTest {
    // 9 (rank 824632) is the top; on its left 7 (678323), 5 (470435) and 3 (324154), each below the
    // one before it; on its right 70 (706062), and 80 (570764) below that.
    private static final int[] KEYS = {3, 5, 7, 9, 70, 80};

    public static void main(String[] args) {
        Due test = new Due("TermsChangeTest");
        everyKeyHasANode(test);
        subtree(test);
        otherValue(test);
        newKey(test);
        removedKey(test);
        movedSubtreeIsKept(test);
        oldStateAlone(test);
        othersAreKept(test);
        everySmallChange(test);
        cutChange(test);
        heldWithItsNodes(test);
        inUseOnce(test);
        test.finish();
    }

    private static FencedTreeHeap six() {
        FencedTreeHeap x = new FencedTreeHeap();
        for (int key : KEYS) {
            x.put(key, 1);
        }
        return x;
    }

    private static void everyKeyHasANode(Due test) {
        test.sentence("Every key of the map has a NODE.");
        for (int[] shape : Chain.SHAPES) {
            FencedTreeHeap x = new FencedTreeHeap();
            test.due("nodes() of no keys", x.nodes(), 0);
            for (int i = 0; i < 30; i++) {
                x.put(shape[(i * 7) % 30], i);
                test.due("nodes() of " + (i + 1), x.nodes(), i + 1);
            }
            x.put(shape[0], 99);
            test.due("nodes() after another value", x.nodes(), 30);
            for (int i = 29; i >= 0; i--) {
                x.remove(shape[(i * 11) % 30]);
                test.due("nodes() of " + i, x.nodes(), i);
            }
        }
    }

    // Another value of a key changes the subtrees that it is in: its own and that of each above it.
    private static void subtree(Due test) {
        test.sentence("The SUBTREE of a key is the key itself and all that is below it");
        for (int[] shape : Chain.SHAPES) {
            for (int depth = 0; depth < 30; depth++) {
                FencedTreeHeap x = Chain.full(shape);
                test.due("put at depth " + depth, x.put(shape[depth], 2), depth + 1);
            }
        }
        FencedTreeHeap y = six();
        y.hold(0);
        test.due("put(7, 2), in the subtrees of 7 and 9", y.put(7, 2), 2);
        test.due("put(70, 2), in the subtrees of 70 and 9", y.put(70, 2), 2);
        test.due("nodes(), of 7, 9 and 70 two each", y.nodes(), 9);
    }

    private static final String NEW_NODES = "A CHANGE of the map, from one state to another, makes a new node for"
        + " each key of the new state whose subtree in the new tree does not have just the keys, with the same"
        + " values, that this key's subtree had in the old tree";

    private static void otherValue(Due test) {
        test.sentence(NEW_NODES);
        int[][] due = {{3, 4}, {5, 3}, {7, 2}, {9, 1}, {70, 2}, {80, 3}};
        for (int[] pair : due) {
            FencedTreeHeap x = six();
            test.due("put(" + pair[0] + ", 2)", x.put(pair[0], 2), pair[1]);
            test.due("put(" + pair[0] + ", 2) again", x.put(pair[0], 2), 0);
        }
    }

    private static void newKey(Due test) {
        test.sentence(NEW_NODES);
        FencedTreeHeap x = six();
        // 50 (967946) is the new top; 9 loses 70 and 80, which keep their nodes as 7, 5 and 3 do.
        test.due("put(50, 1) on top", x.put(50, 1), 2);
        // 90 (439058) comes below 80.
        test.due("put(90, 1) at the foot", x.put(90, 1), 4);
        // 60 is higher than 70: it comes between 50 and 70, and 70 keeps its node.
        test.due("put(60, 1) in between", x.put(60, 1), 2);
        test.due("depth(70)", x.depth(70), 2);
        FencedTreeHeap y = new FencedTreeHeap();
        y.put(5, 1);
        y.put(80, 1);
        y.put(3, 1);
        // 80 is above 5, 5 above 3: 9 takes 5 and 3 on its left, and 80 on its right loses them.
        test.due("put(9, 1) on top of both sides", y.put(9, 1), 2);
    }

    private static void removedKey(Due test) {
        test.sentence(NEW_NODES);
        // Of 9: 70 gets 7, 5 and 3 on its left. Of 70: 80 takes its place as it is.
        int[][] due = {{3, 3}, {5, 2}, {7, 1}, {9, 1}, {70, 1}, {80, 2}};
        for (int[] pair : due) {
            FencedTreeHeap x = six();
            test.due("remove(" + pair[0] + ")", x.remove(pair[0]), pair[1]);
        }
        FencedTreeHeap y = new FencedTreeHeap();
        y.put(5, 1);
        test.due("remove of the last key", y.remove(5), 0);
    }

    private static void movedSubtreeIsKept(Due test) {
        test.sentence(NEW_NODES);
        FencedTreeHeap x = new FencedTreeHeap();
        x.put(7, 1);
        x.put(5, 1);
        x.put(3, 1);
        // They are all below the new top then, and no subtree of theirs has changed.
        test.due("put(9, 1) on top", x.put(9, 1), 1);
        test.due("depth(3)", x.depth(3), 3);
        test.due("remove(9)", x.remove(9), 0);
        test.due("depth(3)", x.depth(3), 2);
    }

    // A node that an earlier or a held state had is not there again with its keys and values.
    private static void oldStateAlone(Due test) {
        test.sentence(NEW_NODES);
        FencedTreeHeap x = six();
        x.hold(0);
        test.due("put(3, 2)", x.put(3, 2), 4);
        test.due("put(3, 1), as it is held", x.put(3, 1), 4);
        test.due("nodes()", x.nodes(), 6 + 4);
        test.due("remove(9)", x.remove(9), 1);
        test.due("put(9, 1), as it is held", x.put(9, 1), 2);
        test.due("nodes()", x.nodes(), 6 + 5);
        for (int key : KEYS) {
            test.due("get(" + key + ")", x.get(key), x.heldGet(0, key));
        }
    }

    private static void othersAreKept(Due test) {
        test.sentence("the other keys keep their nodes.");
        for (int key : KEYS) {
            FencedTreeHeap x = six();
            x.hold(0);
            int made = x.put(key, 2);
            test.due("nodes() after put(" + key + ", 2)", x.nodes(), 6 + made);
            FencedTreeHeap y = six();
            y.hold(1);
            made = y.remove(key);
            test.due("nodes() after remove(" + key + ")", y.nodes(), 6 + made);
            y.release(1);
            test.due("nodes() of the map", y.nodes(), 5);
        }
        FencedTreeHeap z = Chain.full();
        z.hold(0);
        z.remove(Chain.KEYS[0]);
        test.due("nodes() of 29 kept ones and the held top", z.nodes(), 30);
        z.release(0);
        test.due("nodes() of 29 kept ones", z.nodes(), 29);
    }

    private static final int[] POOL = {5, 7, 9, 218, 400, 3701};

    private static void putAndHold(FencedTreeHeap x, Model y, int set) {
        for (int i = 0; i < POOL.length; i++) {
            if ((set >> i & 1) == 1) {
                x.put(POOL[i], 1);
                y.put(POOL[i], 1);
            }
        }
        x.hold(0);
        y.hold(0);
    }

    // Each set of the pool's keys, 218 and 3701 of equal rank among them, and each change of it.
    private static void everySmallChange(Due test) {
        test.sentence(NEW_NODES);
        for (int set = 0; set < 64; set++) {
            for (int way = 0; way < 3; way++) {
                for (int key : POOL) {
                    FencedTreeHeap x = new FencedTreeHeap();
                    Model y = new Model();
                    putAndHold(x, y, set);
                    String of = (way < 2 ? "put " : "remove ") + key + " of set " + set;
                    int got = way < 2 ? x.put(key, 1 + way) : x.remove(key);
                    int due = way < 2 ? y.put(key, 1 + way) : y.remove(key);
                    test.due(of, got, due);
                    test.due("nodes() after " + of, x.nodes(), y.nodes());
                    test.due("put(7, 5) after " + of, x.put(7, 5), y.put(7, 5));
                    test.due("nodes() after both", x.nodes(), y.nodes());
                }
            }
        }
    }

    // The nodes that a cut change made are the map's if it is in the new state, else nobody's.
    private static void cutChange(Due test) {
        test.sentence("Every key of the map has a NODE.");
        for (int done = 0; done < 5 * 4 + 4; done++) {
            for (int way = 0; way < 2; way++) {
                FencedTreeHeap x = six();
                x.cut(done);
                x.put(3, 2);
                x.restart(way == 1);
                test.due("nodes() after a cut at " + done, x.nodes(), 6);
                x.hold(0);
                test.due("put(3, 3)", x.put(3, 3), 4);
                test.due("nodes()", x.nodes(), 10);
                x.release(0);
                test.due("nodes()", x.nodes(), 6);
            }
        }
    }

    private static void heldWithItsNodes(Due test) {
        test.sentence("A state may be HELD in a slot, 0 or 1, with its nodes.");
        for (int slot = 0; slot < 2; slot++) {
            FencedTreeHeap x = Chain.full();
            x.hold(slot);
            for (int key : Chain.KEYS) {
                test.due("remove of the top", x.remove(key), 0);
            }
            test.due("size()", x.size(), 0);
            test.due("nodes() of the held state alone", x.nodes(), 30);
            for (int i = 0; i < 7; i++) {
                test.due("put", x.put(Chain.KEYS[i], 7), i + 1);
                test.due("nodes()", x.nodes(), 30 + i + 1);
            }
            for (int key : Chain.KEYS) {
                test.due("heldGet(" + slot + ", " + key + ")", x.heldGet(slot, key), 1);
            }
            x.release(slot);
            test.due("nodes() of the map alone", x.nodes(), 7);
        }
    }

    private static void inUseOnce(Due test) {
        test.sentence("IN USE are the nodes of the map as it is and of the states that are held, each node once.");
        FencedTreeHeap x = six();
        test.due("nodes() of the map", x.nodes(), 6);
        x.hold(0);
        test.due("nodes() of the map and slot 0", x.nodes(), 6);
        x.hold(1);
        test.due("nodes() of the map and both slots", x.nodes(), 6);
        x.put(9, 2);
        test.due("nodes() with a new top", x.nodes(), 7);
        x.put(9, 3);
        test.due("nodes() with another new top", x.nodes(), 7);
        x.release(0);
        x.hold(0);
        test.due("nodes() of two states", x.nodes(), 7);
        x.put(9, 4);
        test.due("nodes() of three states", x.nodes(), 8);
        x.release(1);
        test.due("nodes() without slot 1", x.nodes(), 7);
        x.release(0);
        test.due("nodes() without slot 0", x.nodes(), 6);
    }
}
