/** Promise 1. */
public final class NewObjectTest {
    public static void main(String[] args) {
        Due test = new Due("NewObjectTest");
        isEmpty(test);
        holdsNothing(test);
        isNotDown(test);
        hasNoCut(test);
        sharesNothing(test);
        test.finish();
    }

    private static void isEmpty(Due test) {
        test.sentence("An empty map");
        FencedTreeHeap x = new FencedTreeHeap();
        test.due("size()", x.size(), 0);
        test.due("nodes()", x.nodes(), 0);
        test.due("events()", x.events(), 0);
        test.due("fences()", x.fences(), 0);
        test.due("next(least int)", x.next(Integer.MIN_VALUE), FencedTreeHeap.ABSENT);
        test.due("get(0)", x.get(0), FencedTreeHeap.ABSENT);
        test.due("depth(0)", x.depth(0), FencedTreeHeap.ABSENT);
        test.due("remove(0)", x.remove(0), FencedTreeHeap.ABSENT);
    }

    private static void holdsNothing(Due test) {
        test.sentence("nothing held");
        FencedTreeHeap x = new FencedTreeHeap();
        for (int slot = 0; slot < 2; slot++) {
            test.due("heldGet", x.heldGet(slot, 0), FencedTreeHeap.BAD);
            test.due("heldNext", x.heldNext(slot, 0), FencedTreeHeap.BAD);
            test.due("release", x.release(slot), false);
            test.due("hold", x.hold(slot), true);
        }
    }

    private static void isNotDown(Due test) {
        test.sentence("the machine is not DOWN.");
        FencedTreeHeap x = new FencedTreeHeap();
        test.due("restart(true)", x.restart(true), FencedTreeHeap.BAD);
        test.due("restart(false)", x.restart(false), FencedTreeHeap.BAD);
        test.due("size()", x.size(), 0);
        test.due("put(5, 1)", x.put(5, 1), 1);
        test.due("hold(0)", x.hold(0), true);
        test.due("crash()", x.crash(), true);
    }

    private static void hasNoCut(Due test) {
        test.sentence("no cut set");
        FencedTreeHeap x = new FencedTreeHeap();
        for (int i = 0; i < 256; i++) {
            test.due("put(1, " + i + ")", x.put(1, i), 1);
        }
        test.due("events()", x.events(), 9 * 256);
        test.due("fences()", x.fences(), 2 * 256);
    }

    private static void sharesNothing(Due test) {
        test.sentence("An empty map, nothing held, no cut set; the machine is not DOWN.");
        FencedTreeHeap x = new FencedTreeHeap();
        x.put(7, 70);
        x.hold(0);
        x.cut(0);
        FencedTreeHeap y = new FencedTreeHeap();
        test.due("size() of another", y.size(), 0);
        test.due("heldGet of another", y.heldGet(0, 7), FencedTreeHeap.BAD);
        test.due("put on another", y.put(8, 80), 1);
        test.due("put on the first", x.put(8, 80), FencedTreeHeap.CUT);
        test.due("get on another", y.get(8), 80);
    }
}
