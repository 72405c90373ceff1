/** Promise 2, and what the terms say of a cut. */
public final class CutTest {
    public static void main(String[] args) {
        Due test = new Due("CutTest");
        answers(test);
        falseChangesNothing(test);
        isTakenBack(test);
        lastOneCounts(test);
        countsFromNowOn(test);
        staysSet(test);
        isGoneWhenNoticed(test);
        isSetWhileDown(test);
        outlivesCrash(test);
        seesNoOtherCall(test);
        test.finish();
    }

    private static void answers(Due test) {
        test.sentence("Answers true; false when n is below -1.");
        FencedTreeHeap x = new FencedTreeHeap();
        test.due("cut(-1)", x.cut(-1), true);
        test.due("cut(0)", x.cut(0), true);
        test.due("cut(greatest)", x.cut(Integer.MAX_VALUE), true);
        test.due("cut(-2)", x.cut(-2), false);
        test.due("cut(least)", x.cut(Integer.MIN_VALUE), false);
        test.due("put with a far cut", x.put(1, 1), 1);
    }

    private static void falseChangesNothing(Due test) {
        test.sentence("Answers true; false when n is below -1.");
        FencedTreeHeap x = new FencedTreeHeap();
        x.cut(3);
        x.cut(-2);
        test.due("put after cut(3), cut(-2)", x.put(1, 1), FencedTreeHeap.CUT);
        test.due("events()", x.events(), 3);
        x.restart(false);
        x.cut(-5);
        test.due("put after cut(-5)", x.put(1, 1), 1);
    }

    private static void isTakenBack(Due test) {
        test.sentence("n = -1: no cut is set.");
        FencedTreeHeap x = new FencedTreeHeap();
        test.due("cut(-1) with none set", x.cut(-1), true);
        test.due("put after cut(-1)", x.put(1, 0), 1);
        x.cut(0);
        test.due("cut(-1)", x.cut(-1), true);
        test.due("put after cut(0), cut(-1)", x.put(1, 1), 1);
        x.cut(12);
        x.put(1, 2);
        test.due("cut(-1) with 3 left", x.cut(-1), true);
        for (int i = 0; i < 100; i++) {
            test.due("put after cut(12), cut(-1)", x.put(1, 3 + i), 1);
        }
    }

    private static void lastOneCounts(Due test) {
        test.sentence("Sets the cut at n events from now on, whatever was set before");
        FencedTreeHeap x = new FencedTreeHeap();
        x.cut(2);
        x.cut(12);
        test.due("put(1, 1)", x.put(1, 1), 1);
        x.cut(5);
        test.due("put(1, 2)", x.put(1, 2), FencedTreeHeap.CUT);
        test.due("events()", x.events(), 14);
    }

    private static void countsFromNowOn(Due test) {
        test.sentence("Sets the cut at n events from now on, whatever was set before");
        for (int puts = 0; puts < 5; puts++) {
            for (int n = 0; n < 9; n++) {
                FencedTreeHeap x = new FencedTreeHeap();
                x.cut(50);
                for (int i = 0; i < puts; i++) {
                    x.put(1, i);
                }
                test.due("cut(" + n + ")", x.cut(n), true);
                test.due("put(1, 9)", x.put(1, 9), FencedTreeHeap.CUT);
                test.due("events()", x.events(), 9 * puts + n);
            }
        }
        FencedTreeHeap y = new FencedTreeHeap();
        y.cut(20);
        y.put(1, 1);
        y.cut(20);
        test.due("put(1, 2), 9 of 20", y.put(1, 2), 1);
        test.due("put(1, 3), 18 of 20", y.put(1, 3), 1);
        test.due("put(1, 4), 20 of 20", y.put(1, 4), FencedTreeHeap.CUT);
        test.due("events()", y.events(), 9 + 20);
    }

    private static void staysSet(Due test) {
        test.sentence("what is left of it stays set.");
        FencedTreeHeap x = new FencedTreeHeap();
        x.cut(18);
        test.due("put(1, 1), 9 of 18", x.put(1, 1), 1);
        test.due("put(1, 2), 18 of 18", x.put(1, 2), 1);
        test.due("put(1, 2) without an event", x.put(1, 2), 0);
        test.due("put(1, 3), none left", x.put(1, 3), FencedTreeHeap.CUT);
        test.due("events()", x.events(), 18);
        test.due("restart(true)", x.restart(true), 1);
        test.due("get(1)", x.get(1), 2);
    }

    private static void isGoneWhenNoticed(Due test) {
        test.sentence("no cut is set any more.");
        FencedTreeHeap x = new FencedTreeHeap();
        x.cut(4);
        test.due("put(1, 1)", x.put(1, 1), FencedTreeHeap.CUT);
        x.restart(false);
        for (int i = 0; i < 20; i++) {
            test.due("put(1, " + i + ")", x.put(1, i), 1);
        }
    }

    private static void isSetWhileDown(Due test) {
        test.sentence("(Also while the machine is DOWN.)");
        FencedTreeHeap x = new FencedTreeHeap();
        x.crash();
        test.due("cut(greatest) while down", x.cut(Integer.MAX_VALUE), true);
        test.due("cut(least) while down", x.cut(Integer.MIN_VALUE), false);
        test.due("cut(1) while down", x.cut(1), true);
        test.due("cut(-2) while down", x.cut(-2), false);
        x.restart(false);
        test.due("put(1, 1)", x.put(1, 1), FencedTreeHeap.CUT);
        test.due("cut(0) while down", x.cut(0), true);
        test.due("cut(-1) while down", x.cut(-1), true);
        x.restart(false);
        test.due("put(1, 1) again", x.put(1, 1), 1);
        test.due("events()", x.events(), 10);
    }

    // Only the event itself or another cut is said to end a cut.
    private static void outlivesCrash(Due test) {
        test.sentence("what is left of it stays set.");
        FencedTreeHeap x = new FencedTreeHeap();
        x.cut(10);
        x.put(1, 1);
        x.crash();
        x.restart(true);
        test.due("put(1, 2)", x.put(1, 2), FencedTreeHeap.CUT);
        test.due("events()", x.events(), 10);
    }

    private static void seesNoOtherCall(Due test) {
        test.sentence("A call that comes to its end without that event does not notice the cut");
        FencedTreeHeap x = new FencedTreeHeap();
        x.put(1, 1);
        x.cut(0);
        test.due("put of the same", x.put(1, 1), 0);
        test.due("put of a wrong key", x.put(-1, 1), FencedTreeHeap.BAD);
        test.due("remove of none", x.remove(2), FencedTreeHeap.ABSENT);
        test.due("hold(0)", x.hold(0), true);
        test.due("release(0)", x.release(0), true);
        test.due("get(1)", x.get(1), 1);
        test.due("next(1)", x.next(1), 1);
        test.due("nodes()", x.nodes(), 1);
        test.due("remove(1)", x.remove(1), FencedTreeHeap.CUT);
    }
}
