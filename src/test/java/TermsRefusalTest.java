import java.util.ArrayList;
import java.util.List;

/** "Terms": what a refused call changes, which of several codes it answers, and DOWN. */
public final class TermsRefusalTest {
    public static void main(String[] args) {
        Due test = new Due("TermsRefusalTest");
        changesNothing(test);
        firstCodeOfPut(test);
        firstCodeOfRemove(test);
        firstCodeOfReads(test);
        firstCodeOfHeldReads(test);
        downAfterACrash(test);
        downAfterACut(test);
        callsThatDoNotNameDown(test);
        test.finish();
    }

    private interface Call {
        int on(FencedTreeHeap x);
    }

    private interface Situation {
        FencedTreeHeap make();
    }

    private record Named(String name, Call call, boolean isBoolean) {
        boolean isRefusal(int answer) {
            return isBoolean ? answer == 0 : answer < 0 && answer != FencedTreeHeap.CUT;
        }
    }

    private static final int FOOT = Chain.KEYS[29];

    private static FencedTreeHeap small(int cut) {
        FencedTreeHeap x = Chain.first(3);
        x.hold(0);
        x.put(45, 2);
        x.cut(cut);
        return x;
    }

    private static FencedTreeHeap full(int cut) {
        FencedTreeHeap x = Chain.full();
        x.hold(1);
        x.put(FOOT, 2);
        x.cut(cut);
        return x;
    }

    private static FencedTreeHeap crashed(FencedTreeHeap x) {
        x.crash();
        return x;
    }

    // A change of one node, 9 events, of which so many are done.
    private static FencedTreeHeap cutOff(FencedTreeHeap x, int done) {
        x.cut(done);
        x.put(28, 77);
        return x;
    }

    private static List<Situation> situations() {
        List<Situation> all = new ArrayList<>();
        all.add(FencedTreeHeap::new);
        all.add(() -> crashed(new FencedTreeHeap()));
        int[] cuts = {-1, 0, 5, 12};
        for (int cut : cuts) {
            all.add(() -> small(cut));
            all.add(() -> full(cut));
            all.add(() -> crashed(small(cut)));
            all.add(() -> crashed(full(cut)));
        }
        for (int i = 0; i < 9; i++) {
            int done = i;
            all.add(() -> cutOff(small(-1), done));
            all.add(() -> cutOff(full(-1), done));
        }
        return all;
    }

    private static void add(List<Named> all, String name, Call call) {
        all.add(new Named(name, call, false));
    }

    private static void addBoolean(List<Named> all, String name, Call call) {
        all.add(new Named(name, call, true));
    }

    private static List<Named> calls() {
        List<Named> all = new ArrayList<>();
        int[] keys = {Integer.MIN_VALUE, -1, 0, 28, 45, FOOT, 4095, 4096, Integer.MAX_VALUE};
        int[] values = {Integer.MIN_VALUE, -1, 3, 1000000000, Integer.MAX_VALUE};
        for (int key : keys) {
            for (int value : values) {
                add(all, "put(" + key + ", " + value + ")", x -> x.put(key, value));
            }
            add(all, "remove(" + key + ")", x -> x.remove(key));
            add(all, "get(" + key + ")", x -> x.get(key));
            add(all, "next(" + key + ")", x -> x.next(key));
            add(all, "depth(" + key + ")", x -> x.depth(key));
        }
        add(all, "size()", x -> x.size());
        add(all, "nodes()", x -> x.nodes());
        int[] slots = {Integer.MIN_VALUE, -1, 0, 1, 2, Integer.MAX_VALUE};
        for (int slot : slots) {
            addBoolean(all, "hold(" + slot + ")", x -> x.hold(slot) ? 1 : 0);
            addBoolean(all, "release(" + slot + ")", x -> x.release(slot) ? 1 : 0);
            add(all, "heldGet(" + slot + ", 28)", x -> x.heldGet(slot, 28));
            add(all, "heldGet(" + slot + ", 0)", x -> x.heldGet(slot, 0));
            add(all, "heldNext(" + slot + ", 28)", x -> x.heldNext(slot, 28));
            add(all, "heldNext(" + slot + ", 4096)", x -> x.heldNext(slot, 4096));
        }
        addBoolean(all, "cut(-2)", x -> x.cut(-2) ? 1 : 0);
        addBoolean(all, "cut(least)", x -> x.cut(Integer.MIN_VALUE) ? 1 : 0);
        addBoolean(all, "crash()", x -> x.crash() ? 1 : 0);
        add(all, "restart(true)", x -> x.restart(true));
        add(all, "restart(false)", x -> x.restart(false));
        return all;
    }

    /** All that can be found out from here on: what is seen, the restart, and a cut that is set. */
    private static String allThatFollows(FencedTreeHeap x, boolean evicted) {
        StringBuilder text = new StringBuilder();
        text.append(Due.seen(x)).append(" then ").append(x.restart(evicted));
        text.append(' ').append(x.get(28)).append(' ').append(x.get(45)).append(' ').append(x.get(FOOT));
        text.append(' ').append(x.nodes()).append(' ').append(x.hold(0)).append(' ').append(x.hold(1));
        for (int i = 0; i < 3; i++) {
            text.append(' ').append(x.put(28, 500 + i)).append(' ').append(x.events());
        }
        text.append(' ').append(x.restart(evicted)).append(' ').append(x.get(28));
        text.append(' ').append(x.nodes()).append(' ').append(x.remove(28)).append(' ').append(x.events());
        return text.toString();
    }

    private static void changesNothing(Due test) {
        test.sentence("A call that answers a code below 0 other than CUT, or false, changes nothing.");
        List<Named> calls = calls();
        int situations = 0;
        int refusals = 0;
        for (Situation situation : situations()) {
            String[] due = {allThatFollows(situation.make(), false), allThatFollows(situation.make(), true)};
            for (Named call : calls) {
                for (int way = 0; way < 2; way++) {
                    FencedTreeHeap x = situation.make();
                    int answer = call.call().on(x);
                    if (call.isRefusal(answer)) {
                        refusals++;
                        String name = call.name() + " in situation " + situations + ", which answers " + answer;
                        test.due("what follows " + name, allThatFollows(x, way == 1), due[way]);
                    }
                }
            }
            situations++;
        }
        test.due("there are refusals enough, " + refusals, refusals > 40 * situations, true);
    }

    private static final String FIRST =
        "Where several codes would do, the one that its comment names first is answered.";

    private static void firstCodeOfPut(Due test) {
        test.sentence(FIRST);
        FencedTreeHeap x = full(0);
        test.due("BAD (key) before FULL and CUT", x.put(4096, 1), FencedTreeHeap.BAD);
        test.due("BAD (value) before FULL of keys and CUT", x.put(0, -1), FencedTreeHeap.BAD);
        test.due("BAD (value) before FULL of nodes and CUT", x.put(FOOT, 1000000000), FencedTreeHeap.BAD);
        test.due("FULL of keys before CUT", x.put(0, 1), FencedTreeHeap.FULL);
        test.due("FULL of nodes before CUT", x.put(FOOT, 3), FencedTreeHeap.FULL);
        test.due("0 without any event before CUT", x.put(FOOT, 2), 0);
        test.due("CUT", x.put(28, 3), FencedTreeHeap.CUT);
        test.due("DOWN before BAD (key)", x.put(-1, 1), FencedTreeHeap.DOWN);
        test.due("DOWN before BAD (value)", x.put(0, -1), FencedTreeHeap.DOWN);
        test.due("DOWN before FULL of keys", x.put(0, 1), FencedTreeHeap.DOWN);
        test.due("DOWN before FULL of nodes", x.put(FOOT, 3), FencedTreeHeap.DOWN);
        test.due("DOWN before 0", x.put(FOOT, 2), FencedTreeHeap.DOWN);
        x.cut(0);
        test.due("DOWN before CUT", x.put(28, 3), FencedTreeHeap.DOWN);
    }

    private static void firstCodeOfRemove(Due test) {
        test.sentence(FIRST);
        FencedTreeHeap x = full(0);
        test.due("ABSENT before CUT", x.remove(0), FencedTreeHeap.ABSENT);
        test.due("ABSENT of no key before CUT", x.remove(-1), FencedTreeHeap.ABSENT);
        test.due("FULL before CUT", x.remove(FOOT), FencedTreeHeap.FULL);
        test.due("CUT", x.remove(28), FencedTreeHeap.CUT);
        test.due("DOWN before ABSENT", x.remove(0), FencedTreeHeap.DOWN);
        test.due("DOWN before FULL", x.remove(FOOT), FencedTreeHeap.DOWN);
        x.cut(0);
        test.due("DOWN before CUT", x.remove(28), FencedTreeHeap.DOWN);
    }

    private static void firstCodeOfReads(Due test) {
        test.sentence(FIRST);
        int[] keys = {Integer.MIN_VALUE, -1, 0, 4095, 4096, Integer.MAX_VALUE};
        FencedTreeHeap x = crashed(new FencedTreeHeap());
        for (int key : keys) {
            test.due("get(" + key + "), DOWN before ABSENT", x.get(key), FencedTreeHeap.DOWN);
            test.due("next(" + key + "), DOWN before ABSENT", x.next(key), FencedTreeHeap.DOWN);
            test.due("depth(" + key + "), DOWN before ABSENT", x.depth(key), FencedTreeHeap.DOWN);
        }
    }

    private static void firstCodeOfHeldReads(Due test) {
        test.sentence(FIRST);
        FencedTreeHeap x = small(-1);
        int[] none = {-1, 1, 2, Integer.MIN_VALUE, Integer.MAX_VALUE};
        for (int slot : none) {
            test.due("heldGet(" + slot + ", 0), BAD before ABSENT", x.heldGet(slot, 0), FencedTreeHeap.BAD);
            test.due("heldGet(" + slot + ", -1), BAD before ABSENT", x.heldGet(slot, -1), FencedTreeHeap.BAD);
            test.due("heldNext(" + slot + ", 4096), BAD before ABSENT", x.heldNext(slot, 4096), FencedTreeHeap.BAD);
        }
        test.due("heldGet(0, 0)", x.heldGet(0, 0), FencedTreeHeap.ABSENT);
        test.due("heldNext(0, 4096)", x.heldNext(0, 4096), FencedTreeHeap.ABSENT);
        x.crash();
        test.due("heldGet(0, 0), DOWN before ABSENT", x.heldGet(0, 0), FencedTreeHeap.DOWN);
        test.due("heldNext(0, 4096), DOWN before ABSENT", x.heldNext(0, 4096), FencedTreeHeap.DOWN);
        for (int slot : none) {
            test.due("heldGet(" + slot + ", 0), DOWN before BAD", x.heldGet(slot, 0), FencedTreeHeap.DOWN);
            test.due("heldNext(" + slot + ", 0), DOWN before BAD", x.heldNext(slot, 0), FencedTreeHeap.DOWN);
        }
    }

    private static final String ASKED_DOWN = "Asked while the machine is DOWN, calls that name DOWN answer it.";

    private static void dueDown(Due test, FencedTreeHeap x) {
        for (Named call : calls()) {
            boolean names = !call.isBoolean() && !call.name().startsWith("restart");
            if (names) {
                test.due(call.name() + " while DOWN", call.call().on(x), FencedTreeHeap.DOWN);
            } else if (!call.name().startsWith("restart")) {
                test.due(call.name() + " while DOWN", call.call().on(x), 0);
            }
        }
    }

    private static void downAfterACrash(Due test) {
        test.sentence(ASKED_DOWN);
        dueDown(test, crashed(new FencedTreeHeap()));
        dueDown(test, crashed(small(-1)));
        dueDown(test, crashed(full(0)));
    }

    private static void downAfterACut(Due test) {
        test.sentence(ASKED_DOWN);
        for (int done = 0; done < 9; done++) {
            dueDown(test, cutOff(small(-1), done));
            dueDown(test, cutOff(full(-1), done));
        }
    }

    private static void callsThatDoNotNameDown(Due test) {
        test.sentence(ASKED_DOWN);
        FencedTreeHeap x = crashed(Chain.first(2));
        test.due("events()", x.events(), 9 + 14);
        test.due("fences()", x.fences(), 4);
        test.due("cut(0)", x.cut(0), true);
        test.due("cut(-1)", x.cut(-1), true);
        test.due("restart(true)", x.restart(true), 2);
    }
}
