/** Promises 14 and 15: crash and restart. */
public final class RestartTest {
    public static void main(String[] args) {
        Due test = new Due("RestartTest");
        crash(test);
        crashTwice(test);
        startsAgain(test);
        restartAnswers(test);
        everyCutOfPut(test);
        everyCutOfOtherValue(test);
        everyCutOfRemove(test);
        cutChangeIsLookedAtOnce(test);
        refusedChangeStaysAway(test);
        crashAfterCut(test);
        test.finish();
    }

    private static void crash(Due test) {
        test.sentence("The power goes.");
        FencedTreeHeap x = new FencedTreeHeap();
        x.put(1, 10);
        x.put(2, 20);
        String before = Due.seen(x);
        for (int way = 0; way < 2; way++) {
            test.due("crash()", x.crash(), true);
            test.due("crash() again", x.crash(), false);
            test.due("restart", x.restart(way == 0), 2);
            test.dueSame("restart", x, before);
        }
    }

    private static void crashTwice(Due test) {
        test.sentence("Answers true; false when the machine is DOWN already.");
        FencedTreeHeap x = new FencedTreeHeap();
        for (int i = 0; i < 3; i++) {
            test.due("crash()", x.crash(), true);
            test.due("crash() again", x.crash(), false);
            test.due("crash() once more", x.crash(), false);
            x.restart(i == 1);
        }
    }

    private static void startsAgain(Due test) {
        test.sentence("The machine starts again.");
        for (int way = 0; way < 2; way++) {
            FencedTreeHeap x = new FencedTreeHeap();
            x.put(1, 10);
            x.crash();
            test.due("size() while down", x.size(), FencedTreeHeap.DOWN);
            test.due("restart", x.restart(way == 1), 1);
            test.due("size()", x.size(), 1);
            test.due("put(2, 20)", x.put(2, 20) > 0, true);
            test.due("hold(0)", x.hold(0), true);
            test.due("heldGet(0, 2)", x.heldGet(0, 2), 20);
            x.cut(0);
            test.due("remove(1)", x.remove(1), FencedTreeHeap.CUT);
            test.due("restart", x.restart(way == 1), 2);
            test.due("remove(1)", x.remove(1) >= 0, true);
            test.due("size()", x.size(), 1);
        }
    }

    private static void restartAnswers(Due test) {
        test.sentence("Answers how many keys the map has; BAD when it is not DOWN.");
        FencedTreeHeap x = new FencedTreeHeap();
        test.due("restart(true)", x.restart(true), FencedTreeHeap.BAD);
        x.crash();
        test.due("restart(true) of none", x.restart(true), 0);
        test.due("restart(true) again", x.restart(true), FencedTreeHeap.BAD);
        FencedTreeHeap y = Chain.full();
        y.hold(0);
        String before = Due.seen(y);
        test.due("restart(true)", y.restart(true), FencedTreeHeap.BAD);
        test.due("restart(false)", y.restart(false), FencedTreeHeap.BAD);
        test.dueSame("restart while not down", y, before);
        y.crash();
        test.due("restart(false) of 30", y.restart(false), 30);
    }

    private static boolean isNew(int done, int newNodes, boolean evicted) {
        return done >= 5 * newNodes + 3 || (done >= 5 * newNodes + 2 && evicted);
    }

    // 50 has the greater rank, so that 20 is made below it and both nodes are new.
    private static void everyCutOfPut(Due test) {
        test.sentence("(When a change was cut, evicted says whether all words were EVICTED.)");
        for (int done = 0; done < 14; done++) {
            for (int way = 0; way < 2; way++) {
                FencedTreeHeap x = new FencedTreeHeap();
                x.put(50, 1);
                x.cut(done);
                test.due("put(20, 2)", x.put(20, 2), FencedTreeHeap.CUT);
                boolean isNew = isNew(done, 2, way == 1);
                test.due("restart " + way + " at " + done, x.restart(way == 1), isNew ? 2 : 1);
                test.due("get(20)", x.get(20), isNew ? 2 : FencedTreeHeap.ABSENT);
                test.due("get(50)", x.get(50), 1);
                test.due("nodes()", x.nodes(), isNew ? 2 : 1);
                test.due("put(20, 2) again", x.put(20, 2), isNew ? 0 : 2);
            }
        }
    }

    private static void everyCutOfOtherValue(Due test) {
        test.sentence("(When a change was cut, evicted says whether all words were EVICTED.)");
        for (int done = 0; done < 9; done++) {
            for (int way = 0; way < 2; way++) {
                FencedTreeHeap x = new FencedTreeHeap();
                x.put(50, 1);
                x.cut(done);
                test.due("put(50, 2)", x.put(50, 2), FencedTreeHeap.CUT);
                test.due("restart " + way + " at " + done, x.restart(way == 1), 1);
                test.due("get(50)", x.get(50), isNew(done, 1, way == 1) ? 2 : 1);
            }
        }
    }

    private static void everyCutOfRemove(Due test) {
        test.sentence("(When a change was cut, evicted says whether all words were EVICTED.)");
        for (int done = 0; done < 4; done++) {
            for (int way = 0; way < 2; way++) {
                FencedTreeHeap x = new FencedTreeHeap();
                x.put(50, 1);
                x.cut(done);
                test.due("remove(50)", x.remove(50), FencedTreeHeap.CUT);
                boolean isNew = isNew(done, 0, way == 1);
                test.due("restart " + way + " at " + done, x.restart(way == 1), isNew ? 0 : 1);
                test.due("remove(50) again", x.remove(50), isNew ? FencedTreeHeap.ABSENT : 0);
            }
        }
    }

    private static void cutChangeIsLookedAtOnce(Due test) {
        test.sentence("After a crash without a change under way it is as it was.");
        FencedTreeHeap x = new FencedTreeHeap();
        x.put(50, 1);
        x.cut(7);
        x.put(50, 2);
        test.due("restart(false)", x.restart(false), 1);
        x.crash();
        test.due("restart(true) after a crash of its own", x.restart(true), 1);
        test.due("get(50)", x.get(50), 1);
        x.cut(8);
        x.put(50, 3);
        x.restart(false);
        test.due("get(50)", x.get(50), 3);
        x.put(50, 4);
        x.crash();
        x.restart(true);
        test.due("get(50) after a crash of its own", x.get(50), 4);
        x.cut(8);
        x.put(50, 5);
        x.restart(true);
        x.cut(0);
        x.put(50, 6);
        x.restart(true);
        test.due("get(50) after a cut at 0", x.get(50), 5);
    }

    private static void refusedChangeStaysAway(Due test) {
        test.sentence("After a crash without a change under way it is as it was.");
        for (int done = 7; done < 9; done++) {
            FencedTreeHeap x = Chain.full();
            x.cut(done);
            x.put(Chain.KEYS[0], 2);
            x.restart(true);
            test.due("get of what was cut", x.get(Chain.KEYS[0]), 2);
            x.hold(0);
            x.put(Chain.KEYS[29], 3);
            test.due("put beyond the heap", x.put(Chain.KEYS[29], 4), FencedTreeHeap.FULL);
            x.crash();
            test.due("restart(true)", x.restart(true), 30);
            test.due("get of what was refused", x.get(Chain.KEYS[29]), 3);
        }
    }

    private static void crashAfterCut(Due test) {
        test.sentence("Answers true; false when the machine is DOWN already.");
        FencedTreeHeap x = new FencedTreeHeap();
        x.cut(7);
        x.put(1, 1);
        test.due("crash() after a cut", x.crash(), false);
        test.due("restart(true)", x.restart(true), 1);
        test.due("crash()", x.crash(), true);
        test.due("restart(false)", x.restart(false), 1);
    }
}
