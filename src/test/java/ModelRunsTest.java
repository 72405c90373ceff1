/** All promises at once: long runs of calls, each answer compared with that of the model. */
public final class ModelRunsTest {
    private static final int RUNS = 600;
    private static final int CALLS = 512;
    private static final int[] EDGES = {
        Integer.MIN_VALUE, -2, -1, 0, 4095, 4096, Integer.MAX_VALUE,
    };
    private static final int[] EQUAL_RANKS = {218, 3701, 229, 3690, 318, 1273, 1971, 3881, 549, 3370};

    private final Due test = new Due("ModelRunsTest");
    private long seed = 1;
    private int keyPool;
    private int cutsIn100;
    private FencedTreeHeap x;
    private Model y;

    public static void main(String[] args) {
        new ModelRunsTest().runAll();
    }

    private void runAll() {
        int[] reached = new int[6];
        for (int run = 0; run < RUNS; run++) {
            oneRun(run);
            int[] now = {
                y.fullOfKeys, y.fullOfNodes, y.cutToNew, y.cutToOld, y.evictedToNew, y.exactly64,
            };
            for (int i = 0; i < now.length; i++) {
                reached[i] += now[i];
            }
        }
        for (int i = 0; i < reached.length; i++) {
            test.due("the runs reach rare thing " + i + ", " + reached[i] + " times", reached[i] >= 20, true);
        }
        test.finish();
    }

    private void oneRun(int run) {
        x = new FencedTreeHeap();
        y = new Model();
        seed = run + 1;
        keyPool = run % 5;
        cutsIn100 = run % 3 == 0 ? 0 : run % 3 == 1 ? 2 : 8;
        for (int call = 0; call < CALLS; call++) {
            oneCall("run " + run + ", call " + call + ": ");
        }
    }

    /** A number from 0 on, less than the bound; the same ones every time. */
    private int pick(int bound) {
        seed = seed * 6364136223846793005L + 1442695040888963407L;
        return (int) ((seed >>> 33) % bound);
    }

    private int key() {
        if (pick(40) == 0) {
            return EDGES[pick(EDGES.length)];
        }
        switch (keyPool) {
            case 0: return pick(4096);
            case 1: return Chain.KEYS[pick(30)];
            case 2: return 100 + pick(36);
            case 3: return EQUAL_RANKS[pick(10)];
            default: return pick(8);
        }
    }

    private int value() {
        int kind = pick(40);
        return kind == 0 ? pick(2) * 1000000001 - 1 : kind == 1 ? 999999999 : pick(5);
    }

    private int slot() {
        return pick(20) == 0 ? EDGES[pick(EDGES.length)] : pick(2);
    }

    private void oneCall(String at) {
        if (pick(100) < cutsIn100) {
            int n = pick(12) == 0 ? -pick(4) : pick(40);
            test.due(at + "cut(" + n + ")", x.cut(n), y.cut(n));
            return;
        }
        int kind = pick(100);
        if (kind < 45) {
            int key = key();
            int value = value();
            test.due(at + "put(" + key + ", " + value + ")", x.put(key, value), y.put(key, value));
        } else if (kind < 57) {
            int key = pick(4) == 0 ? key() : y.next(key());
            test.due(at + "remove(" + key + ")", x.remove(key), y.remove(key));
        } else if (kind < 75) {
            read(at, pick(7));
        } else if (kind < 90) {
            slotCall(at, pick(8));
        } else {
            powerCall(at, pick(20));
        }
    }

    private void read(String at, int kind) {
        int key = pick(2) == 0 ? key() : y.next(key());
        switch (kind) {
            case 0: test.due(at + "get(" + key + ")", x.get(key), y.get(key)); break;
            case 1: test.due(at + "next(" + key + ")", x.next(key), y.next(key)); break;
            case 2: test.due(at + "depth(" + key + ")", x.depth(key), y.depth(key)); break;
            case 3: test.due(at + "size()", x.size(), y.size()); break;
            case 4: test.due(at + "events()", x.events(), y.events()); break;
            case 5: test.due(at + "fences()", x.fences(), y.fences()); break;
            default: test.due(at + "nodes()", x.nodes(), y.nodes()); break;
        }
    }

    private void slotCall(String at, int kind) {
        int slot = slot();
        int key = key();
        if (kind < 3) {
            test.due(at + "hold(" + slot + ")", x.hold(slot), y.hold(slot));
        } else if (kind < 4) {
            test.due(at + "release(" + slot + ")", x.release(slot), y.release(slot));
        } else if (kind < 6) {
            test.due(at + "heldGet(" + slot + ", " + key + ")", x.heldGet(slot, key), y.heldGet(slot, key));
        } else {
            test.due(at + "heldNext(" + slot + ", " + key + ")", x.heldNext(slot, key), y.heldNext(slot, key));
        }
    }

    private void powerCall(String at, int kind) {
        if (kind == 0) {
            test.due(at + "crash()", x.crash(), y.crash());
        } else {
            boolean evicted = pick(2) == 0;
            test.due(at + "restart(" + evicted + ")", x.restart(evicted), y.restart(evicted));
        }
    }
}
