/** "Terms": the restart after a change that was cut, and after a crash without one. */
public final class TermsRestartTest {
    private static final String AFTER_A_CUT = "When the machine starts again after a change that was cut, the map is"
        + " in the new state if the flush of the root word was done, or if its store was done and all words were"
        + " EVICTED (written back by themselves) before the power went; otherwise it is in the old state.";
    private static final String AFTER_A_CRASH = "After a crash without a change under way it is as it was.";

    public static void main(String[] args) {
        Due test = new Due("TermsRestartTest");
        everyCutOfAPut(test);
        everyCutOfARemove(test);
        everyCutOfAChangeBetween(test);
        fullMapAndBack(test);
        downForLong(test);
        cutAfterCut(test);
        crashAlone(test);
        crashAfterAnOldCut(test);
        crashAfterARefusedChange(test);
        noneHeldAfterACrash(test);
        noneHeldAfterACut(test);
        heldNodesAreFree(test);
        test.finish();
    }

    private interface Change {
        int on(FencedTreeHeap x);
    }

    private static boolean isNew(int n, int done, boolean evicted) {
        int storedRoot = 5 * n + 2;
        return done > storedRoot || (done == storedRoot && evicted);
    }

    /** The change of n new nodes cut at every event, seen by the map before it and behind it. */
    private static void dueAtEveryCut(Due test, int keys, int n, Change change) {
        FencedTreeHeap whole = Chain.first(keys);
        String before = Due.seenMap(whole);
        test.due("new nodes", change.on(whole), n);
        String behind = Due.seenMap(whole);
        for (int done = 0; done < 5 * n + 4; done++) {
            for (int way = 0; way < 2; way++) {
                FencedTreeHeap x = Chain.first(keys);
                x.cut(done);
                String at = " of " + n + " nodes, cut at " + done + (way == 1 ? ", evicted" : "");
                test.due("change" + at, change.on(x), FencedTreeHeap.CUT);
                x.restart(way == 1);
                test.due("the map" + at, Due.seenMap(x), isNew(n, done, way == 1) ? behind : before);
                test.due("nodes()" + at, x.nodes(), x.size());
            }
        }
    }

    private static void everyCutOfAPut(Due test) {
        test.sentence(AFTER_A_CUT);
        dueAtEveryCut(test, 0, 1, x -> x.put(28, 0));
        dueAtEveryCut(test, 1, 2, x -> x.put(45, 5));
        dueAtEveryCut(test, 1, 1, x -> x.put(28, 2));
        dueAtEveryCut(test, 7, 7, x -> x.put(Chain.KEYS[6], 0));
        dueAtEveryCut(test, 30, 30, x -> x.put(Chain.KEYS[29], 999999999));
    }

    private static void everyCutOfARemove(Due test) {
        test.sentence(AFTER_A_CUT);
        dueAtEveryCut(test, 1, 0, x -> x.remove(28));
        dueAtEveryCut(test, 5, 0, x -> x.remove(28));
        dueAtEveryCut(test, 5, 4, x -> x.remove(Chain.KEYS[4]));
        dueAtEveryCut(test, 30, 29, x -> x.remove(Chain.KEYS[29]));
    }

    // 160 comes into the chain's midst, and a key of its midst goes.
    private static void everyCutOfAChangeBetween(Due test) {
        test.sentence(AFTER_A_CUT);
        FencedTreeHeap whole = Chain.first(12);
        int made = whole.put(160, 3);
        dueAtEveryCut(test, 12, made, x -> x.put(160, 3));
        FencedTreeHeap other = Chain.first(12);
        int gone = other.remove(Chain.KEYS[6]);
        dueAtEveryCut(test, 12, gone, x -> x.remove(Chain.KEYS[6]));
    }

    private static void fullMapAndBack(Due test) {
        test.sentence(AFTER_A_CUT);
        FencedTreeHeap x = Chain.first(29);
        x.cut(153);
        test.due("put of key 30", x.put(Chain.KEYS[29], 1), FencedTreeHeap.CUT);
        test.due("restart(false)", x.restart(false), 30);
        x.cut(148);
        test.due("remove of key 30", x.remove(Chain.KEYS[29]), FencedTreeHeap.CUT);
        test.due("restart(false)", x.restart(false), 29);
        test.due("put of key 30", x.put(0, 1) >= 1, true);
        test.due("put of key 31", x.put(1, 1), FencedTreeHeap.FULL);
    }

    // What is asked while the machine is DOWN does not matter to what was cut.
    private static void downForLong(Due test) {
        test.sentence(AFTER_A_CUT);
        for (int done = 6; done < 9; done++) {
            FencedTreeHeap x = Chain.first(3);
            x.cut(done);
            x.put(28, 5);
            x.put(28, 6);
            x.put(45, 6);
            x.remove(28);
            x.crash();
            x.cut(done);
            x.cut(-1);
            x.hold(0);
            x.release(0);
            test.due("restart(true)", x.restart(true), 3);
            test.due("get(28), cut at " + done, x.get(28), done >= 7 ? 5 : 1);
            test.due("get(45)", x.get(45), 1);
        }
    }

    private static void cutAfterCut(Due test) {
        test.sentence(AFTER_A_CUT);
        for (int first = 0; first < 9; first++) {
            for (int second = 0; second < 9; second++) {
                FencedTreeHeap x = new FencedTreeHeap();
                x.put(5, 1);
                x.cut(first);
                x.put(5, 2);
                x.restart(true);
                x.cut(second);
                x.put(5, 3);
                x.restart(false);
                int due = second >= 8 ? 3 : first >= 7 ? 2 : 1;
                test.due("get(5), cut at " + first + " and " + second, x.get(5), due);
                FencedTreeHeap y = new FencedTreeHeap();
                y.put(5, 1);
                y.cut(first);
                y.put(5, 2);
                y.restart(false);
                y.cut(second);
                y.remove(5);
                if (second < 4) {
                    due = second >= 2 ? 0 : 1;
                    test.due("restart(true), cut at " + first + " and " + second, y.restart(true), due);
                }
            }
        }
    }

    private static void crashAlone(Due test) {
        test.sentence(AFTER_A_CRASH);
        for (int keys = 0; keys <= 30; keys += 10) {
            FencedTreeHeap x = Chain.first(keys);
            String before = Due.seenMap(x);
            for (int way = 0; way < 2; way++) {
                test.due("crash()", x.crash(), true);
                test.due("restart", x.restart(way == 1), keys);
                test.due("the map", Due.seenMap(x), before);
                test.due("nodes()", x.nodes(), keys);
            }
        }
    }

    private static void crashAfterAnOldCut(Due test) {
        test.sentence(AFTER_A_CRASH);
        for (int done = 0; done < 9; done++) {
            for (int way = 0; way < 4; way++) {
                FencedTreeHeap x = new FencedTreeHeap();
                x.put(5, 1);
                x.cut(done);
                x.put(5, 2);
                x.restart((way & 1) == 1);
                int then = x.get(5);
                x.crash();
                x.restart((way & 2) == 2);
                test.due("get(5) after a crash of its own", x.get(5), then);
                x.put(5, 3);
                x.crash();
                x.restart((way & 2) == 2);
                test.due("get(5) after a put and a crash", x.get(5), 3);
                x.remove(5);
                x.crash();
                test.due("restart after a remove and a crash", x.restart((way & 2) == 2), 0);
            }
        }
    }

    private static void crashAfterARefusedChange(Due test) {
        test.sentence(AFTER_A_CRASH);
        for (int done = 6; done < 9; done++) {
            FencedTreeHeap x = Chain.full();
            x.cut(done);
            x.put(28, 2);
            x.restart(true);
            x.hold(0);
            x.put(Chain.KEYS[29], 3);
            int then = x.get(28);
            test.due("put beyond the heap", x.put(Chain.KEYS[29], 4), FencedTreeHeap.FULL);
            test.due("remove beyond the heap", x.remove(Chain.KEYS[28]), FencedTreeHeap.FULL);
            test.due("put of key 31", x.put(0, 4), FencedTreeHeap.FULL);
            x.crash();
            test.due("restart(true)", x.restart(true), 30);
            test.due("get of what was refused", x.get(Chain.KEYS[29]), 3);
            test.due("get of what was cut", x.get(28), then);
        }
    }

    private static void dueNoneHeld(Due test, FencedTreeHeap x) {
        for (int slot = 0; slot < 2; slot++) {
            test.due("heldGet(" + slot + ", 28)", x.heldGet(slot, 28), FencedTreeHeap.BAD);
            test.due("heldNext(" + slot + ", 0)", x.heldNext(slot, 0), FencedTreeHeap.BAD);
            test.due("release(" + slot + ")", x.release(slot), false);
            test.due("hold(" + slot + ")", x.hold(slot), true);
        }
    }

    private static void noneHeldAfterACrash(Due test) {
        test.sentence("No state is held any more then.");
        for (int held = 1; held < 4; held++) {
            FencedTreeHeap x = Chain.first(3);
            if ((held & 1) != 0) {
                x.hold(0);
            }
            if ((held & 2) != 0) {
                x.hold(1);
            }
            x.put(28, 2);
            x.crash();
            x.restart(held == 2);
            test.due("nodes()", x.nodes(), 3);
            dueNoneHeld(test, x);
        }
    }

    private static void noneHeldAfterACut(Due test) {
        test.sentence("No state is held any more then.");
        for (int done = 0; done < 9; done++) {
            for (int way = 0; way < 2; way++) {
                FencedTreeHeap x = Chain.first(3);
                x.hold(0);
                x.hold(1);
                x.cut(done);
                x.put(28, 2);
                x.restart(way == 1);
                test.due("nodes()", x.nodes(), 3);
                dueNoneHeld(test, x);
            }
        }
    }

    private static void heldNodesAreFree(Due test) {
        test.sentence("No state is held any more then.");
        FencedTreeHeap x = Chain.full();
        x.hold(0);
        x.put(Chain.KEYS[29], 2);
        x.hold(1);
        x.put(Chain.KEYS[3], 2);
        test.due("nodes()", x.nodes(), 64);
        test.due("put, 65", x.put(28, 2), FencedTreeHeap.FULL);
        x.crash();
        x.restart(true);
        test.due("nodes() then", x.nodes(), 30);
        test.due("put of 30 new ones", x.put(Chain.KEYS[29], 3), 30);
        test.due("hold(0)", x.hold(0), true);
        test.due("put of 30 new ones, 60", x.put(Chain.KEYS[29], 4), 30);
        test.due("heldGet(0, foot)", x.heldGet(0, Chain.KEYS[29]), 3);
    }
}
