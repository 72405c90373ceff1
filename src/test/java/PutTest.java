/** Promise 3. */
public final class PutTest {
    public static void main(String[] args) {
        Due test = new Due("PutTest");
        edges(test);
        hasItFromNowOn(test);
        wrongInputs(test);
        sameValue(test);
        countsNewNodes(test);
        keepsWhatASplitLeaves(test);
        equalRanks(test);
        fullOfKeys(test);
        fullOfNodes(test);
        whileDown(test);
        isCut(test);
        orderOfCodes(test);
        comparesWithTheMapAlone(test);
        test.finish();
    }

    private static void edges(Due test) {
        test.sentence("The key has this value from now on.");
        FencedTreeHeap x = new FencedTreeHeap();
        // 4095 has the greater rank of the two, so it is above.
        test.due("put(0, 0)", x.put(0, 0), 1);
        test.due("put(4095, 999999999)", x.put(4095, 999999999), 1);
        test.due("get(0)", x.get(0), 0);
        test.due("get(4095)", x.get(4095), 999999999);
        test.due("put(0, 999999999)", x.put(0, 999999999), 2);
        test.due("put(4095, 0)", x.put(4095, 0), 1);
        test.due("get(0)", x.get(0), 999999999);
        test.due("get(4095)", x.get(4095), 0);
    }

    private static void hasItFromNowOn(Due test) {
        test.sentence("The key has this value from now on.");
        FencedTreeHeap x = new FencedTreeHeap();
        for (int i = 0; i < 30; i++) {
            x.put(Chain.ZIGZAG[i], 100 + i);
            test.due("get right after it", x.get(Chain.ZIGZAG[i]), 100 + i);
        }
        for (int i = 0; i < 30; i += 2) {
            x.put(Chain.ZIGZAG[i], 500 + i);
        }
        x.hold(0);
        x.crash();
        x.restart(false);
        for (int i = 0; i < 30; i++) {
            int due = i % 2 == 0 ? 500 + i : 100 + i;
            test.due("get(" + Chain.ZIGZAG[i] + ")", x.get(Chain.ZIGZAG[i]), due);
            test.due("next(" + Chain.ZIGZAG[i] + ")", x.next(Chain.ZIGZAG[i]), Chain.ZIGZAG[i]);
        }
        test.due("size()", x.size(), 30);
    }

    private static void wrongInputs(Due test) {
        test.sentence("BAD when it is no key or no value");
        FencedTreeHeap x = new FencedTreeHeap();
        x.put(5, 10);
        String before = Due.seen(x);
        int[][] wrong = {
            {-1, 0}, {4096, 0}, {0, -1}, {0, 1000000000}, {5, -1}, {5, 1000000000},
            {Integer.MIN_VALUE, 0}, {Integer.MAX_VALUE, 0}, {0, Integer.MIN_VALUE},
            {0, Integer.MAX_VALUE}, {-1, -1}, {5 + 4096, 10},
        };
        for (int[] pair : wrong) {
            String call = "put(" + pair[0] + ", " + pair[1] + ")";
            test.due(call, x.put(pair[0], pair[1]), FencedTreeHeap.BAD);
            test.dueSame(call, x, before);
        }
    }

    private static void sameValue(Due test) {
        test.sentence("0, without any event, when it has this value already.");
        FencedTreeHeap x = Chain.full();
        String before = Due.seen(x);
        for (int key : Chain.KEYS) {
            test.due("put(" + key + ", 1)", x.put(key, 1), 0);
        }
        test.dueSame("puts of the same", x, before);
    }

    private static void countsNewNodes(Due test) {
        test.sentence("Answers how many new nodes were made");
        FencedTreeHeap x = new FencedTreeHeap();
        for (int i = 0; i < 30; i++) {
            test.due("put at the foot, " + i, x.put(Chain.KEYS[i], 1), i + 1);
        }
        for (int i = 0; i < 30; i++) {
            test.due("put at depth " + i, x.put(Chain.KEYS[i], 2), i + 1);
        }
        FencedTreeHeap y = new FencedTreeHeap();
        for (int i = 29; i >= 0; i--) {
            test.due("put on top, " + i, y.put(Chain.KEYS[i], 1), 1);
        }
        test.due("nodes()", y.nodes(), 30);
    }

    // Ranks fall from 50 (967946) over 60, 70, 80 to 90 (439058); 9 has 824632, 7 has 678323.
    private static void keepsWhatASplitLeaves(Due test) {
        test.sentence("Answers how many new nodes were made");
        FencedTreeHeap x = new FencedTreeHeap();
        test.due("put(7, 1)", x.put(7, 1), 1);
        test.due("put(60, 1)", x.put(60, 1), 1);
        test.due("put(80, 1)", x.put(80, 1), 2);
        // On top: 7 goes to the left with its node, 80 stays below 60, which is new for it lost 7.
        test.due("put(50, 1) on top", x.put(50, 1), 2);
        test.due("depth(60)", x.depth(60), 1);
        test.due("depth(7)", x.depth(7), 1);
        // Between 60 and 80: 80 keeps its node, 60 and 50 do not.
        test.due("put(70, 1)", x.put(70, 1), 3);
        test.due("depth(80)", x.depth(80), 3);
        test.due("size()", x.size(), 5);
    }

    private static void equalRanks(Due test) {
        test.sentence("Answers how many new nodes were made");
        FencedTreeHeap x = new FencedTreeHeap();
        test.due("put(218, 1)", x.put(218, 1), 1);
        test.due("put(3701, 1) below its equal", x.put(3701, 1), 2);
        FencedTreeHeap y = new FencedTreeHeap();
        test.due("put(3701, 1)", y.put(3701, 1), 1);
        test.due("put(218, 1) above its equal", y.put(218, 1), 1);
        test.due("depth(218)", y.depth(218), 0);
        test.due("depth(3701)", y.depth(3701), 1);
    }

    private static void fullOfKeys(Due test) {
        test.sentence("FULL when there would be 31 keys");
        FencedTreeHeap x = Chain.full();
        String before = Due.seen(x);
        test.due("put of key 31", x.put(Chain.BELOW, 1), FencedTreeHeap.FULL);
        test.due("put of another key 31", x.put(0, 1), FencedTreeHeap.FULL);
        test.dueSame("puts of key 31", x, before);
        test.due("put of a key that is there", x.put(Chain.KEYS[0], 5), 1);
        test.due("remove at the foot", x.remove(Chain.KEYS[29]), 29);
        test.due("put of key 30", x.put(Chain.BELOW, 1), 30);
    }

    private static void fullOfNodes(Due test) {
        test.sentence("or the nodes in use and the new ones would be more than 64 together");
        FencedTreeHeap x = Chain.full();
        x.hold(0);
        test.due("put at the foot, 60 in use then", x.put(Chain.KEYS[29], 2), 30);
        test.due("nodes()", x.nodes(), 60);
        String before = Due.seen(x);
        // After it there would be 60 again, but the old and the new ones are there together.
        test.due("put at the foot, 90", x.put(Chain.KEYS[29], 3), FencedTreeHeap.FULL);
        test.due("put at depth 4, 65", x.put(Chain.KEYS[4], 3), FencedTreeHeap.FULL);
        test.dueSame("puts beyond the heap", x, before);
        test.due("put at depth 3, 64", x.put(Chain.KEYS[3], 3), 4);
        test.due("nodes()", x.nodes(), 60);
        x.hold(1);
        test.due("put at depth 3, 64", x.put(Chain.KEYS[3], 4), 4);
        test.due("nodes()", x.nodes(), 64);
        test.due("put at the top, 65", x.put(Chain.KEYS[0], 4), FencedTreeHeap.FULL);
        test.due("put of the same, 64", x.put(Chain.KEYS[29], 2), 0);
        test.due("release(0)", x.release(0), true);
        test.due("put at the top, 35", x.put(Chain.KEYS[0], 4), 1);
    }

    private static void whileDown(Due test) {
        test.sentence("Or DOWN");
        FencedTreeHeap x = new FencedTreeHeap();
        x.put(5, 1);
        x.crash();
        int[][] pairs = {{5, 1}, {5, 2}, {6, 1}, {-1, 1}, {5, -1}, {4096, 1000000000}};
        for (int[] pair : pairs) {
            test.due("put(" + pair[0] + ", " + pair[1] + ")", x.put(pair[0], pair[1]), FencedTreeHeap.DOWN);
        }
        test.due("events()", x.events(), 9);
        test.due("restart(true)", x.restart(true), 1);
        test.due("get(5)", x.get(5), 1);
        test.due("get(6)", x.get(6), FencedTreeHeap.ABSENT);
    }

    private static void isCut(Due test) {
        test.sentence("more than 64 together; CUT.");
        for (int done = 0; done <= 14; done++) {
            FencedTreeHeap x = new FencedTreeHeap();
            x.put(50, 1);
            x.cut(done);
            test.due("put(20, 2), cut at " + done, x.put(20, 2), done < 14 ? FencedTreeHeap.CUT : 2);
            test.due("get(20)", x.get(20), done < 14 ? FencedTreeHeap.DOWN : 2);
        }
    }

    private static void orderOfCodes(Due test) {
        test.sentence("Or DOWN; BAD when it is no key or no value; FULL when there would be 31 keys, or the nodes in"
            + " use and the new ones would be more than 64 together; CUT.");
        FencedTreeHeap x = Chain.full();
        x.cut(0);
        test.due("wrong before full", x.put(4096, 1), FencedTreeHeap.BAD);
        test.due("wrong value before full", x.put(0, -1), FencedTreeHeap.BAD);
        test.due("full before cut", x.put(0, 1), FencedTreeHeap.FULL);
        test.due("same before cut", x.put(28, 1), 0);
        test.due("cut", x.put(28, 2), FencedTreeHeap.CUT);
        test.due("down before wrong", x.put(4096, -1), FencedTreeHeap.DOWN);
        test.due("down before full", x.put(0, 1), FencedTreeHeap.DOWN);
        test.due("down before the same", x.put(28, 1), FencedTreeHeap.DOWN);
        x.restart(false);
        x.hold(0);
        x.put(Chain.KEYS[29], 2);
        x.cut(0);
        test.due("full of nodes before cut", x.put(Chain.KEYS[29], 3), FencedTreeHeap.FULL);
        test.due("cut still set", x.put(Chain.KEYS[0], 3), FencedTreeHeap.CUT);
    }

    private static void comparesWithTheMapAlone(Due test) {
        test.sentence("Answers how many new nodes were made");
        FencedTreeHeap x = new FencedTreeHeap();
        x.put(5, 1);
        x.hold(0);
        test.due("put(5, 2)", x.put(5, 2), 1);
        test.due("put(5, 1), as it is held", x.put(5, 1), 1);
        test.due("nodes()", x.nodes(), 2);
    }
}
