import java.util.ArrayList;
import java.util.Collections;
import java.util.IdentityHashMap;
import java.util.List;
import java.util.Map;
import java.util.Set;
import java.util.TreeMap;

/**
 * The document once more, by its words and in another way than the class: subtrees by going down
 * from the top, nodes as objects, events one after the other.
 */
final class Model {
    private static final int NODE_STORE = 0;
    private static final int FENCE = 1;
    private static final int ROOT_STORE = 2;
    private static final int ROOT_FLUSH = 3;

    /** A state: the values of the keys and the nodes of the keys. */
    private static final class Held {
        final TreeMap<Integer, Integer> values = new TreeMap<>();
        final Map<Integer, Object> nodes = new TreeMap<>();
    }

    private Held map = new Held();
    private final Held[] slots = new Held[2];
    private Held after;
    private boolean stored;
    private boolean flushed;
    private boolean down;
    private int left = -1;
    private int events;
    private int fences;

    /** How often the rarer things came about, for the test to see that its runs reach them. */
    int fullOfKeys;
    int fullOfNodes;
    int cutToNew;
    int cutToOld;
    int evictedToNew;
    int exactly64;

    boolean cut(int n) {
        if (n < -1) {
            return false;
        }
        left = n;
        return true;
    }

    int put(int key, int value) {
        if (down) {
            return FencedTreeHeap.DOWN;
        }
        if (key < 0 || key > 4095 || value < 0 || value > 999999999) {
            return FencedTreeHeap.BAD;
        }
        Integer was = map.values.get(key);
        if (was != null && was == value) {
            return 0;
        }
        TreeMap<Integer, Integer> then = new TreeMap<>(map.values);
        then.put(key, value);
        if (then.size() == 31) {
            fullOfKeys++;
            return FencedTreeHeap.FULL;
        }
        return change(then);
    }

    int remove(int key) {
        if (down) {
            return FencedTreeHeap.DOWN;
        }
        if (!map.values.containsKey(key)) {
            return FencedTreeHeap.ABSENT;
        }
        TreeMap<Integer, Integer> then = new TreeMap<>(map.values);
        then.remove(key);
        return change(then);
    }

    private int change(TreeMap<Integer, Integer> then) {
        Map<Integer, Map<Integer, Integer>> before = subtrees(map.values);
        Map<Integer, Map<Integer, Integer>> behind = subtrees(then);
        Held changed = new Held();
        changed.values.putAll(then);
        int made = 0;
        for (int key : then.keySet()) {
            if (behind.get(key).equals(before.get(key))) {
                changed.nodes.put(key, map.nodes.get(key));
            } else {
                changed.nodes.put(key, new Object());
                made++;
            }
        }
        int together = nodesInUse() + made;
        if (together > 64) {
            fullOfNodes++;
            return FencedTreeHeap.FULL;
        }
        exactly64 += together == 64 ? 1 : 0;
        after = changed;
        stored = false;
        flushed = false;
        for (int kind : kinds(made)) {
            if (left == 0) {
                left = -1;
                down = true;
                return FencedTreeHeap.CUT;
            }
            left = left > 0 ? left - 1 : left;
            doEvent(kind);
        }
        map = after;
        after = null;
        return made;
    }

    private static List<Integer> kinds(int made) {
        List<Integer> kinds = new ArrayList<>(Collections.nCopies(5 * made, NODE_STORE));
        Collections.addAll(kinds, FENCE, ROOT_STORE, ROOT_FLUSH, FENCE);
        return kinds;
    }

    private void doEvent(int kind) {
        events++;
        fences += kind == FENCE ? 1 : 0;
        stored |= kind == ROOT_STORE;
        flushed |= kind == ROOT_FLUSH;
    }

    /** Greater for the higher one of two keys. */
    static long height(int key) {
        int x = (key + 1) * 1664525 + 1013904223;
        return ((x ^ (x >>> 15)) & 1048575) * 10000L - key;
    }

    private static int top(Map<Integer, Integer> values) {
        int top = -1;
        for (int key : values.keySet()) {
            if (top < 0 || height(key) > height(top)) {
                top = key;
            }
        }
        return top;
    }

    private static Map<Integer, Map<Integer, Integer>> subtrees(TreeMap<Integer, Integer> values) {
        Map<Integer, Map<Integer, Integer>> all = new TreeMap<>();
        if (!values.isEmpty()) {
            int top = top(values);
            all.put(top, new TreeMap<>(values));
            all.putAll(subtrees(new TreeMap<>(values.headMap(top, false))));
            all.putAll(subtrees(new TreeMap<>(values.tailMap(top, false))));
        }
        return all;
    }

    int get(int key) {
        return down ? FencedTreeHeap.DOWN : get(map, key);
    }

    private static int get(Held state, int key) {
        Integer value = state.values.get(key);
        return value == null ? FencedTreeHeap.ABSENT : value;
    }

    int next(int key) {
        return down ? FencedTreeHeap.DOWN : next(map, key);
    }

    private static int next(Held state, int key) {
        Integer found = state.values.ceilingKey(key);
        return found == null ? FencedTreeHeap.ABSENT : found;
    }

    int depth(int key) {
        if (down) {
            return FencedTreeHeap.DOWN;
        }
        if (!map.values.containsKey(key)) {
            return FencedTreeHeap.ABSENT;
        }
        TreeMap<Integer, Integer> within = map.values;
        int depth = 0;
        for (int top = top(within); top != key; top = top(within)) {
            within = new TreeMap<>(key < top ? within.headMap(top, false) : within.tailMap(top, false));
            depth++;
        }
        return depth;
    }

    int size() {
        return down ? FencedTreeHeap.DOWN : map.values.size();
    }

    int nodes() {
        return down ? FencedTreeHeap.DOWN : nodesInUse();
    }

    private int nodesInUse() {
        Set<Object> nodes = Collections.newSetFromMap(new IdentityHashMap<>());
        nodes.addAll(map.nodes.values());
        for (Held slot : slots) {
            if (slot != null) {
                nodes.addAll(slot.nodes.values());
            }
        }
        return nodes.size();
    }

    private Held held(int slot) {
        return slot == 0 || slot == 1 ? slots[slot] : null;
    }

    boolean hold(int slot) {
        if (down || slot < 0 || slot > 1 || slots[slot] != null) {
            return false;
        }
        // A state is never changed in place, so it can be shared.
        slots[slot] = map;
        return true;
    }

    boolean release(int slot) {
        if (down || held(slot) == null) {
            return false;
        }
        slots[slot] = null;
        return true;
    }

    int heldGet(int slot, int key) {
        if (down) {
            return FencedTreeHeap.DOWN;
        }
        return held(slot) == null ? FencedTreeHeap.BAD : get(held(slot), key);
    }

    int heldNext(int slot, int key) {
        if (down) {
            return FencedTreeHeap.DOWN;
        }
        return held(slot) == null ? FencedTreeHeap.BAD : next(held(slot), key);
    }

    boolean crash() {
        if (down) {
            return false;
        }
        down = true;
        return true;
    }

    int restart(boolean evicted) {
        if (!down) {
            return FencedTreeHeap.BAD;
        }
        if (after != null) {
            boolean isNew = flushed || (stored && evicted);
            evictedToNew += isNew && !flushed ? 1 : 0;
            cutToNew += isNew ? 1 : 0;
            cutToOld += isNew ? 0 : 1;
            map = isNew ? after : map;
        }
        after = null;
        slots[0] = null;
        slots[1] = null;
        down = false;
        return map.values.size();
    }

    int events() {
        return events;
    }

    int fences() {
        return fences;
    }
}
