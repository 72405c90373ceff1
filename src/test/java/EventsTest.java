/** Promises 16 and 17: events and fences. */
public final class EventsTest {
    public static void main(String[] args) {
        Due test = new Due("EventsTest");
        wholeChanges(test);
        everyCut(test);
        callsWithoutEvents(test);
        whileDown(test);
        test.finish();
    }

    private static void wholeChanges(Due test) {
        test.sentence("How many events were done.");
        FencedTreeHeap x = new FencedTreeHeap();
        int events = 0;
        for (int i = 0; i < 30; i++) {
            x.put(Chain.KEYS[i], 1);
            events += 5 * (i + 1) + 4;
            test.due("events()", x.events(), events);
            test.due("fences()", x.fences(), 2 * (i + 1));
        }
        for (int i = 29; i >= 0; i--) {
            x.remove(Chain.KEYS[i]);
            events += 5 * i + 4;
            test.due("events()", x.events(), events);
            test.due("fences()", x.fences(), 60 + 2 * (30 - i));
        }
    }

    private static void everyCut(Due test) {
        test.sentence("How many of the events were FENCES.");
        for (int done = 0; done < 14; done++) {
            FencedTreeHeap x = new FencedTreeHeap();
            x.put(50, 1);
            x.cut(done);
            x.put(20, 2);
            int fences = 2 + (done > 10 ? 1 : 0);
            test.due("events() while down", x.events(), 9 + done);
            test.due("fences() while down", x.fences(), fences);
            x.restart(true);
            test.due("events()", x.events(), 9 + done);
            test.due("fences()", x.fences(), fences);
        }
        FencedTreeHeap y = new FencedTreeHeap();
        y.put(50, 1);
        y.cut(14);
        test.due("put with a cut right behind it", y.put(20, 2), 2);
        test.due("events()", y.events(), 23);
        test.due("fences()", y.fences(), 4);
    }

    private static void callsWithoutEvents(Due test) {
        test.sentence("How many events were done.");
        FencedTreeHeap x = Chain.full();
        int events = x.events();
        int fences = x.fences();
        x.put(Chain.KEYS[3], 1);
        x.put(-1, 1);
        x.put(0, 1);
        x.remove(0);
        x.hold(0);
        x.put(Chain.KEYS[29], 1);
        x.get(28);
        x.next(0);
        x.depth(28);
        x.size();
        x.nodes();
        x.heldGet(0, 28);
        x.heldNext(0, 28);
        x.release(0);
        x.crash();
        x.restart(true);
        test.due("events()", x.events(), events);
        test.due("fences()", x.fences(), fences);
    }

    private static void whileDown(Due test) {
        test.sentence("How many events were done.");
        FencedTreeHeap x = new FencedTreeHeap();
        x.put(1, 1);
        x.crash();
        test.due("put while down", x.put(2, 2), FencedTreeHeap.DOWN);
        test.due("remove while down", x.remove(1), FencedTreeHeap.DOWN);
        test.due("events()", x.events(), 9);
        test.due("fences()", x.fences(), 2);
    }
}
