/**
 * A map in a heap of nodes in a memory that forgets what was not written back. A change is
 * drafted beside the map and becomes the map only through the events of its root word, so that
 * it is there as a whole or not at all.
 */
public final class FencedTreeHeap {
    public static final int DOWN = -1;
    public static final int CUT = -2;
    public static final int BAD = -3;
    public static final int ABSENT = -4;
    public static final int FULL = -5;

    private static final int LAST_KEY = 4095;
    private static final int LAST_VALUE = 999999999;
    private static final int MOST_KEYS = 30;
    private static final int HEAP_NODES = 64;
    private static final int SLOTS = 2;
    private static final int NO_CUT = -1;
    private static final int NO_NODE = -1;
    private static final int NOT_THERE = -1;

    private static final int EVENTS_OF_A_NODE = 5;
    // The place of each event behind those of the nodes; the last is also how many there are.
    private static final int TO_FIRST_FENCE = 1;
    private static final int TO_ROOT_STORE = 2;
    private static final int TO_ROOT_FLUSH = 3;
    private static final int TO_SECOND_FENCE = 4;

    private final State map;
    // The state that a change leads to; after a cut it waits here for the restart.
    private final State draft;
    private final State[] slots;
    private final boolean[] taken;
    private final Heap heap;
    private boolean down;
    private boolean rootStored;
    private boolean rootFlushed;
    private int eventsToCut;
    private int eventsDone;
    private int fencesDone;

    public FencedTreeHeap() {
        map = new State();
        draft = new State();
        slots = new State[SLOTS];
        for (int slot = 0; slot < SLOTS; slot++) {
            slots[slot] = new State();
        }
        taken = new boolean[SLOTS];
        heap = new Heap();
        eventsToCut = NO_CUT;
    }

    public boolean cut(int n) {
        if (n < NO_CUT) {
            return false;
        }
        eventsToCut = n;
        return true;
    }

    public int put(int key, int value) {
        if (down) {
            return DOWN;
        }
        if (!isKey(key) || !isValue(value)) {
            return BAD;
        }
        int at = map.indexOf(key);
        if (at != NOT_THERE && map.values[at] == value) {
            return 0;
        }
        if (at == NOT_THERE && map.count >= MOST_KEYS) {
            return FULL;
        }
        draft.copyFrom(map);
        if (at == NOT_THERE) {
            draft.insert(key, value);
        } else {
            draft.values[at] = value;
        }
        return changeToDraft();
    }

    public int remove(int key) {
        if (down) {
            return DOWN;
        }
        int at = map.indexOf(key);
        if (at == NOT_THERE) {
            return ABSENT;
        }
        draft.copyFrom(map);
        draft.removeAt(at);
        return changeToDraft();
    }

    public int get(int key) {
        return down ? DOWN : map.valueOf(key);
    }

    public int next(int key) {
        return down ? DOWN : map.keyFrom(key);
    }

    public int depth(int key) {
        if (down) {
            return DOWN;
        }
        int at = map.indexOf(key);
        return at == NOT_THERE ? ABSENT : map.depthAt(at);
    }

    public int size() {
        return down ? DOWN : map.count;
    }

    public int nodes() {
        if (down) {
            return DOWN;
        }
        findNodesInUse();
        return heap.inUse;
    }

    public boolean hold(int slot) {
        if (down || !isSlot(slot) || taken[slot]) {
            return false;
        }
        slots[slot].copyFrom(map);
        taken[slot] = true;
        return true;
    }

    public boolean release(int slot) {
        if (down || !isHeld(slot)) {
            return false;
        }
        taken[slot] = false;
        return true;
    }

    public int heldGet(int slot, int key) {
        if (down) {
            return DOWN;
        }
        return isHeld(slot) ? slots[slot].valueOf(key) : BAD;
    }

    public int heldNext(int slot, int key) {
        if (down) {
            return DOWN;
        }
        return isHeld(slot) ? slots[slot].keyFrom(key) : BAD;
    }

    public boolean crash() {
        if (down) {
            return false;
        }
        down = true;
        return true;
    }

    public int restart(boolean evicted) {
        if (!down) {
            return BAD;
        }
        if (rootFlushed || (rootStored && evicted)) {
            map.copyFrom(draft);
        }
        // A later crash has no change under way, so this one must not be looked at again.
        rootStored = false;
        rootFlushed = false;
        for (int slot = 0; slot < SLOTS; slot++) {
            taken[slot] = false;
        }
        down = false;
        return map.count;
    }

    public int events() {
        return eventsDone;
    }

    public int fences() {
        return fencesDone;
    }

    private static boolean isKey(int key) {
        return key >= 0 && key <= LAST_KEY;
    }

    private static boolean isValue(int value) {
        return value >= 0 && value <= LAST_VALUE;
    }

    private static boolean isSlot(int slot) {
        return slot >= 0 && slot < SLOTS;
    }

    private boolean isHeld(int slot) {
        return isSlot(slot) && taken[slot];
    }

    private void findNodesInUse() {
        heap.forgetAll();
        heap.useNodesOf(map);
        for (int slot = 0; slot < SLOTS; slot++) {
            if (taken[slot]) {
                heap.useNodesOf(slots[slot]);
            }
        }
    }

    private int changeToDraft() {
        int newNodes = draft.keepNodesOf(map);
        findNodesInUse();
        if (heap.inUse + newNodes > HEAP_NODES) {
            return FULL;
        }
        heap.giveNodesTo(draft);
        return doEvents(newNodes);
    }

    private int doEvents(int newNodes) {
        int ofNodes = EVENTS_OF_A_NODE * newNodes;
        int all = ofNodes + TO_SECOND_FENCE;
        boolean isCut = eventsToCut != NO_CUT && eventsToCut < all;
        int done = isCut ? eventsToCut : all;
        eventsDone += done;
        if (done >= ofNodes + TO_FIRST_FENCE) {
            fencesDone++;
        }
        if (done >= ofNodes + TO_SECOND_FENCE) {
            fencesDone++;
        }
        if (isCut) {
            rootStored = done >= ofNodes + TO_ROOT_STORE;
            rootFlushed = done >= ofNodes + TO_ROOT_FLUSH;
            eventsToCut = NO_CUT;
            down = true;
            return CUT;
        }
        if (eventsToCut != NO_CUT) {
            eventsToCut -= done;
        }
        map.copyFrom(draft);
        return newNodes;
    }

    /**
     * The keys of one state in rising order, each with its value, its rank and its node. The tree
     * is not stored: the subtree of a key is the run of keys around it that are all lower.
     */
    private static final class State {
        final int[] keys = new int[MOST_KEYS];
        final int[] values = new int[MOST_KEYS];
        final int[] ranks = new int[MOST_KEYS];
        final int[] nodeOf = new int[MOST_KEYS];
        int count;

        void copyFrom(State other) {
            count = other.count;
            System.arraycopy(other.keys, 0, keys, 0, count);
            System.arraycopy(other.values, 0, values, 0, count);
            System.arraycopy(other.ranks, 0, ranks, 0, count);
            System.arraycopy(other.nodeOf, 0, nodeOf, 0, count);
        }

        /** The index of the least key that is this one or greater; count if there is none. */
        int indexFrom(int key) {
            int at = 0;
            while (at < count && keys[at] < key) {
                at++;
            }
            return at;
        }

        int indexOf(int key) {
            int at = indexFrom(key);
            return at < count && keys[at] == key ? at : NOT_THERE;
        }

        int valueOf(int key) {
            int at = indexOf(key);
            return at == NOT_THERE ? ABSENT : values[at];
        }

        int keyFrom(int key) {
            int at = indexFrom(key);
            return at < count ? keys[at] : ABSENT;
        }

        void insert(int key, int value) {
            if (count >= MOST_KEYS) {
                return;
            }
            int at = indexFrom(key);
            for (int to = count; to > at; to--) {
                moveEntry(to - 1, to);
            }
            keys[at] = key;
            values[at] = value;
            ranks[at] = rankOf(key);
            nodeOf[at] = NO_NODE;
            count++;
        }

        void removeAt(int at) {
            for (int to = at; to < count - 1; to++) {
                moveEntry(to + 1, to);
            }
            count--;
        }

        private void moveEntry(int from, int to) {
            keys[to] = keys[from];
            values[to] = values[from];
            ranks[to] = ranks[from];
            nodeOf[to] = nodeOf[from];
        }

        private static int rankOf(int key) {
            int x = (key + 1) * 1664525 + 1013904223;
            return (x ^ (x >>> 15)) & 1048575;
        }

        private boolean isHigher(int one, int other) {
            // The keys rise, so of equal ranks the lesser index has the lesser key.
            return ranks[one] > ranks[other] || (ranks[one] == ranks[other] && one < other);
        }

        private int firstOfSubtree(int top) {
            int first = top;
            while (first > 0 && isHigher(top, first - 1)) {
                first--;
            }
            return first;
        }

        private int lastOfSubtree(int top) {
            int last = top;
            while (last < count - 1 && isHigher(top, last + 1)) {
                last++;
            }
            return last;
        }

        int depthAt(int at) {
            int above = 0;
            for (int top = 0; top < count; top++) {
                if (top != at && firstOfSubtree(top) <= at && at <= lastOfSubtree(top)) {
                    above++;
                }
            }
            return above;
        }

        /** Keeps the old nodes of the subtrees that are as they were; answers how many are not. */
        int keepNodesOf(State old) {
            int newNodes = 0;
            for (int top = 0; top < count; top++) {
                int oldTop = old.indexOf(keys[top]);
                if (oldTop != NOT_THERE && hasSameSubtree(top, old, oldTop)) {
                    nodeOf[top] = old.nodeOf[oldTop];
                } else {
                    nodeOf[top] = NO_NODE;
                    newNodes++;
                }
            }
            return newNodes;
        }

        private boolean hasSameSubtree(int top, State old, int oldTop) {
            int first = firstOfSubtree(top);
            int length = lastOfSubtree(top) - first + 1;
            int oldFirst = old.firstOfSubtree(oldTop);
            if (old.lastOfSubtree(oldTop) - oldFirst + 1 != length) {
                return false;
            }
            for (int i = 0; i < length; i++) {
                if (keys[first + i] != old.keys[oldFirst + i]
                        || values[first + i] != old.values[oldFirst + i]) {
                    return false;
                }
            }
            return true;
        }
    }

    /** Which nodes are in use, found anew each time by going through the states that have them. */
    private static final class Heap {
        private final boolean[] used = new boolean[HEAP_NODES];
        int inUse;

        void forgetAll() {
            for (int node = 0; node < HEAP_NODES; node++) {
                used[node] = false;
            }
            inUse = 0;
        }

        void useNodesOf(State state) {
            for (int i = 0; i < state.count; i++) {
                useNode(state.nodeOf[i]);
            }
        }

        private void useNode(int node) {
            if (node >= 0 && node < HEAP_NODES && !used[node]) {
                used[node] = true;
                inUse++;
            }
        }

        void giveNodesTo(State state) {
            int free = 0;
            for (int i = 0; i < state.count; i++) {
                if (state.nodeOf[i] == NO_NODE) {
                    while (free < HEAP_NODES - 1 && used[free]) {
                        free++;
                    }
                    state.nodeOf[i] = free;
                    useNode(free);
                }
            }
        }
    }
}
