/** Promise 2, and what the terms say of a cut. */
public final class CutTest {
    public static void main(String[] args) {
        Due test = new Due("CutTest");
        answers(test);
        falseChangesNothing(test);
        isTakenBack(test);
        lastOneCounts(test);
        staysSet(test);
        isGoneWhenNoticed(test);
        isSetWhileDown(test);
        outlivesCrash(test);
        seesNoOtherCall(test);
        test.finish();
    }

    private static void answers(Due test) {
        FencedTreeHeap x = new FencedTreeHeap();
        test.due("cut(-1)", x.cut(-1), true);
        test.due("cut(0)", x.cut(0), true);
        test.due("cut(greatest)", x.cut(Integer.MAX_VALUE), true);
        test.due("cut(-2)", x.cut(-2), false);
        test.due("cut(least)", x.cut(Integer.MIN_VALUE), false);
        test.due("put with a far cut", x.put(1, 1), 1);
    }

    private static void falseChangesNothing(Due test) {
        FencedTreeHeap x = new FencedTreeHeap();
        x.cut(3);
        x.cut(-2);
        test.due("put after cut(3), cut(-2)", x.put(1, 1), FencedTreeHeap.CUT);
        test.due("events()", x.events(), 3);
        x.restart(false);
        x.cut(-5);
        test.due("put after cut(-5)", x.put(1, 1), 1);
    }

    private static void isTakenBack(Due test) {
        FencedTreeHeap x = new FencedTreeHeap();
        x.cut(0);
        x.cut(-1);
        test.due("put after cut(0), cut(-1)", x.put(1, 1), 1);
    }

    private static void lastOneCounts(Due test) {
        FencedTreeHeap x = new FencedTreeHeap();
        x.cut(2);
        x.cut(12);
        test.due("put(1, 1)", x.put(1, 1), 1);
        x.cut(5);
        test.due("put(1, 2)", x.put(1, 2), FencedTreeHeap.CUT);
        test.due("events()", x.events(), 14);
    }

    private static void staysSet(Due test) {
        FencedTreeHeap x = new FencedTreeHeap();
        x.cut(18);
        test.due("put(1, 1), 9 of 18", x.put(1, 1), 1);
        test.due("put(1, 2), 18 of 18", x.put(1, 2), 1);
        test.due("put(1, 2) without an event", x.put(1, 2), 0);
        test.due("put(1, 3), none left", x.put(1, 3), FencedTreeHeap.CUT);
        test.due("events()", x.events(), 18);
        test.due("restart(true)", x.restart(true), 1);
        test.due("get(1)", x.get(1), 2);
    }

    private static void isGoneWhenNoticed(Due test) {
        FencedTreeHeap x = new FencedTreeHeap();
        x.cut(4);
        test.due("put(1, 1)", x.put(1, 1), FencedTreeHeap.CUT);
        x.restart(false);
        for (int i = 0; i < 20; i++) {
            test.due("put(1, " + i + ")", x.put(1, i), 1);
        }
    }

    private static void isSetWhileDown(Due test) {
        FencedTreeHeap x = new FencedTreeHeap();
        x.crash();
        test.due("cut(1) while down", x.cut(1), true);
        test.due("cut(-2) while down", x.cut(-2), false);
        x.restart(false);
        test.due("put(1, 1)", x.put(1, 1), FencedTreeHeap.CUT);
        test.due("cut(0) while down", x.cut(0), true);
        test.due("cut(-1) while down", x.cut(-1), true);
        x.restart(false);
        test.due("put(1, 1) again", x.put(1, 1), 1);
        test.due("events()", x.events(), 10);
    }

    // Only the event itself or another cut is said to end a cut.
    private static void outlivesCrash(Due test) {
        FencedTreeHeap x = new FencedTreeHeap();
        x.cut(10);
        x.put(1, 1);
        x.crash();
        x.restart(true);
        test.due("put(1, 2)", x.put(1, 2), FencedTreeHeap.CUT);
        test.due("events()", x.events(), 10);
    }

    private static void seesNoOtherCall(Due test) {
        FencedTreeHeap x = new FencedTreeHeap();
        x.put(1, 1);
        x.cut(0);
        test.due("put of the same", x.put(1, 1), 0);
        test.due("put of a wrong key", x.put(-1, 1), FencedTreeHeap.BAD);
        test.due("remove of none", x.remove(2), FencedTreeHeap.ABSENT);
        test.due("hold(0)", x.hold(0), true);
        test.due("release(0)", x.release(0), true);
        test.due("get(1)", x.get(1), 1);
        test.due("next(1)", x.next(1), 1);
        test.due("nodes()", x.nodes(), 1);
        test.due("remove(1)", x.remove(1), FencedTreeHeap.CUT);
    }
}
