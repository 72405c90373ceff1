/** Promise 4. */
public final class RemoveTest {
    public static void main(String[] args) {
        Due test = new Due("RemoveTest");
        isGone(test);
        lastKey(test);
        chain(test);
        twoSides(test);
        absent(test);
        fullOfNodes(test);
        whileDown(test);
        isCut(test);
        orderOfCodes(test);
        test.finish();
    }

    private static void isGone(Due test) {
        test.sentence("The key is not in the map any more.");
        for (int i = 0; i < 30; i++) {
            FencedTreeHeap x = Chain.full(Chain.ZIGZAG);
            int key = Chain.ZIGZAG[i];
            x.remove(key);
            test.due("get(" + key + ")", x.get(key), FencedTreeHeap.ABSENT);
            test.due("depth(" + key + ")", x.depth(key), FencedTreeHeap.ABSENT);
            test.due("next(" + key + ")", x.next(key) != key, true);
            test.due("remove(" + key + ") again", x.remove(key), FencedTreeHeap.ABSENT);
            test.due("size()", x.size(), 29);
            for (int other : Chain.ZIGZAG) {
                test.due("get(" + other + ")", x.get(other), other == key ? FencedTreeHeap.ABSENT : 1);
            }
            x.crash();
            test.due("restart(true)", x.restart(true), 29);
            test.due("get(" + key + ")", x.get(key), FencedTreeHeap.ABSENT);
            test.due("put(" + key + ", 0)", x.put(key, 0), i + 1);
            test.due("get(" + key + ")", x.get(key), 0);
        }
    }

    private static void lastKey(Due test) {
        test.sentence("(0 is possible; there are 4 events then)");
        FencedTreeHeap x = new FencedTreeHeap();
        x.put(5, 1);
        test.due("remove(5)", x.remove(5), 0);
        test.due("events()", x.events(), 9 + 4);
        test.due("fences()", x.fences(), 4);
        test.due("size()", x.size(), 0);
        test.due("nodes()", x.nodes(), 0);
        test.due("remove(5) again", x.remove(5), FencedTreeHeap.ABSENT);
        test.due("put(5, 1) again", x.put(5, 1), 1);
    }

    private static void chain(Due test) {
        test.sentence("Answers how many new nodes were made");
        for (int i = 0; i < 30; i++) {
            FencedTreeHeap x = Chain.full();
            int events = x.events();
            test.due("remove at depth " + i, x.remove(Chain.KEYS[i]), i);
            test.due("events()", x.events() - events, 5 * i + 4);
            test.due("size()", x.size(), 29);
            test.due("nodes()", x.nodes(), 29);
            test.due("get", x.get(Chain.KEYS[i]), FencedTreeHeap.ABSENT);
        }
    }

    // Ranks: 9 has 824632, 7 has 678323, 5 has 470435, 3 has 324154, 80 has 570764, 70 has 706062.
    private static void twoSides(Due test) {
        test.sentence("Answers how many new nodes were made");
        FencedTreeHeap x = new FencedTreeHeap();
        int[] keys = {3, 5, 7, 9, 70, 80};
        for (int key : keys) {
            x.put(key, key);
        }
        // 7 and 70 are below 9: without 9, 70 is the top with 7 on its left, and 7 keeps its node.
        test.due("depth(70)", x.depth(70), 1);
        test.due("remove(9)", x.remove(9), 1);
        test.due("depth(70)", x.depth(70), 0);
        test.due("depth(7)", x.depth(7), 1);
        test.due("depth(80)", x.depth(80), 1);
        // Of 7 and 80 the higher one is 7: it comes to stand above 80, which keeps its node.
        test.due("remove(70)", x.remove(70), 1);
        test.due("depth(7)", x.depth(7), 0);
        test.due("depth(80)", x.depth(80), 1);
        test.due("remove(5)", x.remove(5), 1);
        test.due("depth(3)", x.depth(3), 1);
        test.due("get(3)", x.get(3), 3);
        test.due("get(7)", x.get(7), 7);
        test.due("get(80)", x.get(80), 80);
    }

    private static void absent(Due test) {
        test.sentence("ABSENT when it is not in the map");
        FencedTreeHeap x = new FencedTreeHeap();
        x.put(0, 1);
        x.put(4095, 1);
        String before = Due.seen(x);
        int[] keys = {-1, 1, 4094, 4096, Integer.MIN_VALUE, Integer.MAX_VALUE};
        for (int key : keys) {
            test.due("remove(" + key + ")", x.remove(key), FencedTreeHeap.ABSENT);
        }
        test.dueSame("removes of none", x, before);
    }

    private static void fullOfNodes(Due test) {
        test.sentence("FULL when the nodes in use and the new ones would be more than 64 together");
        FencedTreeHeap x = Chain.full();
        x.hold(0);
        x.put(Chain.KEYS[29], 2);
        String before = Due.seen(x);
        test.due("remove at depth 5, 65", x.remove(Chain.KEYS[5]), FencedTreeHeap.FULL);
        test.due("remove at the foot, 89", x.remove(Chain.KEYS[29]), FencedTreeHeap.FULL);
        test.dueSame("removes beyond the heap", x, before);
        x.hold(1);
        test.due("remove at depth 4, 64", x.remove(Chain.KEYS[4]), 4);
        test.due("nodes()", x.nodes(), 64);
        test.due("remove at depth 1, 65", x.remove(Chain.KEYS[1]), FencedTreeHeap.FULL);
        test.due("remove of the top, 64", x.remove(Chain.KEYS[0]), 0);
        test.due("nodes()", x.nodes(), 63);
        test.due("heldGet(1, top)", x.heldGet(1, Chain.KEYS[0]), 1);
    }

    private static void whileDown(Due test) {
        test.sentence("Or DOWN");
        FencedTreeHeap x = new FencedTreeHeap();
        x.put(5, 1);
        x.crash();
        int[] keys = {5, 6, -1, 4096, Integer.MIN_VALUE, Integer.MAX_VALUE};
        for (int key : keys) {
            test.due("remove(" + key + ")", x.remove(key), FencedTreeHeap.DOWN);
        }
        test.due("events()", x.events(), 9);
        test.due("restart(true)", x.restart(true), 1);
    }

    private static void isCut(Due test) {
        test.sentence("more than 64 together; CUT.");
        for (int done = 0; done <= 9; done++) {
            FencedTreeHeap x = Chain.first(2);
            x.cut(done);
            test.due("remove of 9 events, cut at " + done, x.remove(45), done < 9 ? FencedTreeHeap.CUT : 1);
            test.due("size()", x.size(), done < 9 ? FencedTreeHeap.DOWN : 1);
            FencedTreeHeap y = Chain.first(1);
            y.cut(done);
            test.due("remove of 4 events, cut at " + done, y.remove(28), done < 4 ? FencedTreeHeap.CUT : 0);
            test.due("size()", y.size(), done < 4 ? FencedTreeHeap.DOWN : 0);
        }
    }

    private static void orderOfCodes(Due test) {
        test.sentence("Or DOWN; ABSENT when it is not in the map; FULL when the nodes in use and the new ones would"
            + " be more than 64 together; CUT.");
        FencedTreeHeap x = Chain.full();
        x.hold(0);
        x.put(Chain.KEYS[29], 2);
        x.cut(0);
        test.due("absent before cut", x.remove(0), FencedTreeHeap.ABSENT);
        test.due("full before cut", x.remove(Chain.KEYS[29]), FencedTreeHeap.FULL);
        test.due("cut without new nodes", x.remove(Chain.KEYS[0]), FencedTreeHeap.CUT);
        test.due("down before absent", x.remove(0), FencedTreeHeap.DOWN);
        test.due("down before full", x.remove(Chain.KEYS[29]), FencedTreeHeap.DOWN);
    }
}
