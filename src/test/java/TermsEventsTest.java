/** "Terms": the events of a change, and the cut. */
public final class TermsEventsTest {
    public static void main(String[] args) {
        Due test = new Due("TermsEventsTest");
        fiveForEachNode(test);
        noChangeNoEvents(test);
        theirOrder(test);
        cutAtEveryEvent(test);
        downAfterIt(test);
        noCutAnyMore(test);
        cutOverSeveralCalls(test);
        rightBehindTheLastEvent(test);
        callsThatDoNotNotice(test);
        leftOverCrashAndRestart(test);
        farCut(test);
        test.finish();
    }

    private static void fiveForEachNode(Due test) {
        test.sentence("A change that makes n new nodes has 5 n + 4 events");
        for (int[] shape : Chain.SHAPES) {
            FencedTreeHeap x = new FencedTreeHeap();
            for (int n = 1; n <= 30; n++) {
                int before = x.events();
                test.due("put that makes " + n, x.put(shape[n - 1], 1), n);
                test.due("its events", x.events() - before, 5 * n + 4);
            }
            for (int n = 29; n >= 0; n--) {
                int before = x.events();
                test.due("remove that makes " + n, x.remove(shape[n]), n);
                test.due("its events", x.events() - before, 5 * n + 4);
            }
        }
    }

    private static void noChangeNoEvents(Due test) {
        test.sentence("A change that makes n new nodes has 5 n + 4 events");
        FencedTreeHeap x = new FencedTreeHeap();
        x.put(5, 1);
        x.put(5, 1);
        x.put(4096, 1);
        x.put(6, -1);
        x.remove(6);
        x.hold(0);
        x.release(0);
        x.crash();
        x.put(6, 1);
        x.remove(5);
        x.restart(true);
        test.due("events() of the one change", x.events(), 9);
        test.due("fences() of the one change", x.fences(), 2);
    }

    // n nodes: the first n - 1 keys of a chain are there, the next one comes below them.
    private static FencedTreeHeap cutPut(int n, int done) {
        FencedTreeHeap x = Chain.first(n - 1);
        x.cut(done);
        x.put(Chain.KEYS[n - 1], 1);
        return x;
    }

    private static void theirOrder(Due test) {
        test.sentence("for each new node four stores of words and one flush; then a FENCE; a store of the ROOT word;"
            + " a flush of it; a second FENCE.");
        int[] counts = {1, 2, 3, 29, 30};
        for (int n : counts) {
            for (int done = 0; done < 5 * n + 4; done++) {
                String at = " of " + n + " nodes, cut at " + done;
                FencedTreeHeap x = cutPut(n, done);
                test.due("fences()" + at, x.fences(), 2 * (n - 1) + (done > 5 * n ? 1 : 0));
                test.due("restart(false)" + at, x.restart(false), done > 5 * n + 2 ? n : n - 1);
                FencedTreeHeap y = cutPut(n, done);
                test.due("restart(true)" + at, y.restart(true), done > 5 * n + 1 ? n : n - 1);
            }
            FencedTreeHeap z = cutPut(n, 5 * n + 4);
            test.due("fences() of all", z.fences(), 2 * n);
            test.due("size() of all", z.size(), n);
        }
    }

    private static void cutAtEveryEvent(Due test) {
        test.sentence("A CUT may be set: so many events are done from then on, and when the next one is to be done"
            + " it is not done");
        for (int n = 0; n <= 154; n++) {
            FencedTreeHeap x = Chain.full();
            int before = x.events();
            test.due("cut(" + n + ")", x.cut(n), true);
            test.due("put of 154 events", x.put(Chain.KEYS[29], 2), n < 154 ? FencedTreeHeap.CUT : 30);
            test.due("events done", x.events() - before, n);
            test.due("size()", x.size(), n < 154 ? FencedTreeHeap.DOWN : 30);
        }
        for (int n = 0; n <= 4; n++) {
            FencedTreeHeap x = Chain.first(2);
            x.cut(n);
            test.due("remove of 4 events", x.remove(Chain.KEYS[0]), n < 4 ? FencedTreeHeap.CUT : 0);
            test.due("events()", x.events(), 9 + 14 + n);
        }
    }

    private static void downAfterIt(Due test) {
        test.sentence("the machine is DOWN then, the call answers CUT, and no cut is set any more.");
        for (int n = 0; n < 9; n++) {
            FencedTreeHeap x = new FencedTreeHeap();
            x.cut(n);
            test.due("put(5, 1)", x.put(5, 1), FencedTreeHeap.CUT);
            test.due("put(5, 1) again", x.put(5, 1), FencedTreeHeap.DOWN);
            test.due("get(5)", x.get(5), FencedTreeHeap.DOWN);
            test.due("crash()", x.crash(), false);
            test.due("hold(0)", x.hold(0), false);
            test.due("restart(true)", x.restart(true), n >= 7 ? 1 : 0);
        }
        FencedTreeHeap y = new FencedTreeHeap();
        y.put(5, 1);
        y.cut(0);
        test.due("remove(5)", y.remove(5), FencedTreeHeap.CUT);
        test.due("remove(5) again", y.remove(5), FencedTreeHeap.DOWN);
        test.due("restart(false)", y.restart(false), 1);
    }

    private static void noCutAnyMore(Due test) {
        test.sentence("the machine is DOWN then, the call answers CUT, and no cut is set any more.");
        for (int n = 0; n < 9; n++) {
            FencedTreeHeap x = new FencedTreeHeap();
            x.cut(n);
            x.put(5, 1);
            x.restart(false);
            for (int i = 0; i < 200; i++) {
                test.due("put(5, " + (2 + i) + ") after a cut at " + n, x.put(5, 2 + i), 1);
            }
            test.due("events()", x.events(), n + 9 * 200);
        }
    }

    private static void cutOverSeveralCalls(Due test) {
        test.sentence("A CUT may be set: so many events are done from then on, and when the next one is to be done"
            + " it is not done");
        for (int n = 0; n <= 60; n++) {
            FencedTreeHeap x = new FencedTreeHeap();
            x.cut(n);
            for (int i = 0; i < n / 9; i++) {
                test.due("put(5, " + i + ") of cut(" + n + ")", x.put(5, i), 1);
            }
            test.due("the put that meets cut(" + n + ")", x.put(5, 100), FencedTreeHeap.CUT);
            test.due("events()", x.events(), n);
        }
    }

    private static final String NOT_NOTICED = "(A call that comes to its end without that event does not notice the"
        + " cut; what is left of it stays set.)";

    private static void rightBehindTheLastEvent(Due test) {
        test.sentence(NOT_NOTICED);
        FencedTreeHeap x = new FencedTreeHeap();
        x.cut(9);
        test.due("put(5, 1) of 9 events", x.put(5, 1), 1);
        test.due("size(), not DOWN", x.size(), 1);
        test.due("get(5)", x.get(5), 1);
        test.due("fences()", x.fences(), 2);
        test.due("remove(5) with nothing left", x.remove(5), FencedTreeHeap.CUT);
        test.due("events()", x.events(), 9);
        test.due("restart(true)", x.restart(true), 1);
        x.cut(4);
        test.due("remove(5) of 4 events", x.remove(5), 0);
        test.due("size(), not DOWN", x.size(), 0);
        test.due("put(5, 1) with nothing left", x.put(5, 1), FencedTreeHeap.CUT);
    }

    private static void callsThatDoNotNotice(Due test) {
        test.sentence(NOT_NOTICED);
        for (int left = 0; left <= 8; left++) {
            FencedTreeHeap x = Chain.full();
            x.hold(0);
            x.put(Chain.KEYS[29], 2);
            int before = x.events();
            x.cut(left);
            test.due("put of the same", x.put(Chain.KEYS[29], 2), 0);
            test.due("put of no key", x.put(-1, 2), FencedTreeHeap.BAD);
            test.due("put of key 31", x.put(0, 2), FencedTreeHeap.FULL);
            test.due("put beyond the heap", x.put(Chain.KEYS[20], 2), FencedTreeHeap.FULL);
            test.due("remove of none", x.remove(0), FencedTreeHeap.ABSENT);
            test.due("remove beyond the heap", x.remove(Chain.KEYS[20]), FencedTreeHeap.FULL);
            test.due("hold(1)", x.hold(1), true);
            test.due("release(1)", x.release(1), true);
            test.due("size()", x.size(), 30);
            test.due("nodes()", x.nodes(), 60);
            test.due("get", x.get(28), 1);
            test.due("next", x.next(0), 28);
            test.due("depth", x.depth(28), 0);
            test.due("heldGet", x.heldGet(0, 28), 1);
            test.due("heldNext", x.heldNext(0, 0), 28);
            test.due("restart while not DOWN", x.restart(true), FencedTreeHeap.BAD);
            test.due("cut(-2)", x.cut(-2), false);
            test.due("events()", x.events(), before);
            test.due("put of 9 events", x.put(28, 2), FencedTreeHeap.CUT);
            test.due("events()", x.events(), before + left);
        }
    }

    private static void leftOverCrashAndRestart(Due test) {
        test.sentence(NOT_NOTICED);
        for (int left = 0; left <= 8; left++) {
            for (int way = 0; way < 2; way++) {
                FencedTreeHeap x = new FencedTreeHeap();
                x.cut(9 + left);
                x.put(5, 1);
                x.crash();
                x.put(5, 2);
                x.restart(way == 1);
                test.due("put(5, 3)", x.put(5, 3), FencedTreeHeap.CUT);
                test.due("events()", x.events(), 9 + left);
            }
        }
    }

    private static void farCut(Due test) {
        test.sentence(NOT_NOTICED);
        int[] far = {Integer.MAX_VALUE, Integer.MAX_VALUE - 1, 1000000};
        for (int n : far) {
            FencedTreeHeap x = Chain.full();
            test.due("cut(" + n + ")", x.cut(n), true);
            for (int i = 0; i < 400; i++) {
                test.due("put of 154 events, " + i, x.put(Chain.KEYS[29], 2 + i), 30);
            }
            test.due("size()", x.size(), 30);
        }
    }
}
