/** Promises 16 and 17: events and fences. */
public final class EventsTest {
    public static void main(String[] args) {
        Due test = new Due("EventsTest");
        eventsOfWholeChanges(test);
        eventsOfEveryCut(test);
        eventsOfOtherCalls(test);
        eventsWhileDown(test);
        fencesOfWholeChanges(test);
        fencesOfEveryCut(test);
        fencesOfOtherCalls(test);
        fencesWhileDown(test);
        test.finish();
    }

    private static void eventsOfWholeChanges(Due test) {
        test.sentence("How many events were done.");
        FencedTreeHeap x = new FencedTreeHeap();
        int events = 0;
        test.due("events() of none", x.events(), 0);
        for (int i = 0; i < 30; i++) {
            x.put(Chain.KEYS[i], 1);
            events += 5 * (i + 1) + 4;
            test.due("events()", x.events(), events);
        }
        for (int i = 29; i >= 0; i--) {
            x.remove(Chain.KEYS[i]);
            events += 5 * i + 4;
            test.due("events()", x.events(), events);
        }
    }

    /** A change of two new nodes, 14 events, of which so many are done. */
    private static FencedTreeHeap cutOff(int done) {
        FencedTreeHeap x = new FencedTreeHeap();
        x.put(50, 1);
        x.cut(done);
        x.put(20, 2);
        return x;
    }

    private static void eventsOfEveryCut(Due test) {
        test.sentence("How many events were done.");
        for (int done = 0; done <= 14; done++) {
            FencedTreeHeap x = cutOff(done);
            test.due("events() of a cut at " + done, x.events(), 9 + done);
            x.restart(true);
            test.due("events() after the restart", x.events(), 9 + done);
        }
    }

    private static FencedTreeHeap afterOtherCalls() {
        FencedTreeHeap x = Chain.full();
        x.put(Chain.KEYS[3], 1);
        x.put(-1, 1);
        x.put(0, 1);
        x.remove(0);
        x.hold(0);
        x.put(Chain.KEYS[29], 1);
        x.get(28);
        x.next(0);
        x.depth(28);
        x.size();
        x.nodes();
        x.heldGet(0, 28);
        x.heldNext(0, 28);
        x.release(0);
        x.crash();
        x.restart(true);
        return x;
    }

    private static void eventsOfOtherCalls(Due test) {
        test.sentence("How many events were done.");
        test.due("events()", afterOtherCalls().events(), Chain.full().events());
    }

    private static FencedTreeHeap refusedWhileDown() {
        FencedTreeHeap x = new FencedTreeHeap();
        x.put(1, 1);
        x.crash();
        x.put(2, 2);
        x.remove(1);
        return x;
    }

    private static void eventsWhileDown(Due test) {
        test.sentence("How many events were done.");
        test.due("events()", refusedWhileDown().events(), 9);
    }

    private static void fencesOfWholeChanges(Due test) {
        test.sentence("How many of the events were FENCES.");
        FencedTreeHeap x = new FencedTreeHeap();
        test.due("fences() of none", x.fences(), 0);
        for (int i = 0; i < 30; i++) {
            x.put(Chain.KEYS[i], 1);
            test.due("fences()", x.fences(), 2 * (i + 1));
        }
        for (int i = 29; i >= 0; i--) {
            x.remove(Chain.KEYS[i]);
            test.due("fences()", x.fences(), 60 + 2 * (30 - i));
        }
    }

    private static void fencesOfEveryCut(Due test) {
        test.sentence("How many of the events were FENCES.");
        for (int done = 0; done <= 14; done++) {
            FencedTreeHeap x = cutOff(done);
            int due = 2 + (done >= 11 ? 1 : 0) + (done >= 14 ? 1 : 0);
            test.due("fences() of a cut at " + done, x.fences(), due);
            x.restart(true);
            test.due("fences() after the restart", x.fences(), due);
        }
    }

    private static void fencesOfOtherCalls(Due test) {
        test.sentence("How many of the events were FENCES.");
        test.due("fences()", afterOtherCalls().fences(), 60);
    }

    private static void fencesWhileDown(Due test) {
        test.sentence("How many of the events were FENCES.");
        test.due("fences()", refusedWhileDown().fences(), 2);
    }
}
