/** Promise 9. */
public final class NodesTest {
    public static void main(String[] args) {
        Due test = new Due("NodesTest");
        countsEachOnce(test);
        countsBothSlots(test);
        forgetsAfterRestart(test);
        cutMakesNone(test);
        whileDown(test);
        test.finish();
    }

    private static void countsEachOnce(Due test) {
        test.sentence("How many nodes are IN USE.");
        FencedTreeHeap x = Chain.full();
        test.due("nodes()", x.nodes(), 30);
        x.hold(0);
        x.hold(1);
        test.due("nodes() of the same three times", x.nodes(), 30);
        x.put(Chain.KEYS[4], 2);
        test.due("nodes() with 5 new ones", x.nodes(), 35);
        x.put(Chain.KEYS[4], 3);
        test.due("nodes() with 5 others", x.nodes(), 35);
        x.release(0);
        test.due("nodes() of one slot", x.nodes(), 35);
        x.release(1);
        test.due("nodes() of the map alone", x.nodes(), 30);
    }

    private static void countsBothSlots(Due test) {
        test.sentence("How many nodes are IN USE.");
        FencedTreeHeap x = Chain.full();
        x.hold(0);
        x.put(Chain.KEYS[9], 2);
        x.hold(1);
        x.put(Chain.KEYS[1], 3);
        test.due("nodes()", x.nodes(), 30 + 10 + 2);
        for (int i = 0; i < 30; i++) {
            x.remove(Chain.KEYS[i]);
        }
        test.due("nodes() of an empty map", x.nodes(), 40);
        x.release(0);
        test.due("nodes() of slot 1", x.nodes(), 30);
        x.put(Chain.KEYS[29], 1);
        test.due("nodes() with a like one that is new", x.nodes(), 31);
        x.release(1);
        test.due("nodes() of the map", x.nodes(), 1);
    }

    private static void forgetsAfterRestart(Due test) {
        test.sentence("How many nodes are IN USE.");
        FencedTreeHeap x = Chain.full();
        x.hold(0);
        x.put(Chain.KEYS[20], 2);
        test.due("nodes()", x.nodes(), 51);
        x.crash();
        x.restart(false);
        test.due("nodes() after a crash", x.nodes(), 30);
        x.hold(1);
        x.put(Chain.KEYS[29], 5);
        test.due("nodes()", x.nodes(), 60);
    }

    private static void cutMakesNone(Due test) {
        test.sentence("How many nodes are IN USE.");
        for (int done = 0; done < 154; done++) {
            FencedTreeHeap x = Chain.full();
            x.cut(done);
            x.put(Chain.KEYS[29], 2);
            x.restart(false);
            test.due("nodes() after a cut at " + done, x.nodes(), 30);
            x.hold(0);
            test.due("put of 30 new ones", x.put(Chain.KEYS[29], 3), 30);
            test.due("nodes()", x.nodes(), 60);
            test.due("heldGet", x.heldGet(0, Chain.KEYS[29]), done < 153 ? 1 : 2);
        }
    }

    private static void whileDown(Due test) {
        test.sentence("Or DOWN.");
        FencedTreeHeap x = new FencedTreeHeap();
        x.put(1, 1);
        x.crash();
        test.due("nodes()", x.nodes(), FencedTreeHeap.DOWN);
        x.restart(true);
        x.cut(0);
        x.remove(1);
        test.due("nodes()", x.nodes(), FencedTreeHeap.DOWN);
    }
}
