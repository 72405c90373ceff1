import java.util.ArrayList;
import java.util.Arrays;
import java.util.Comparator;
import java.util.List;
import java.util.TreeSet;

/** "Terms": the rank, the higher one of two keys, the tree and the depth. */
public final class TermsTreeTest {
    private static final int[][] EQUAL_RANKS = {{218, 3701}, {229, 3690}, {318, 1273}, {549, 3370}, {1971, 3881}};

    public static void main(String[] args) {
        Due test = new Due("TermsTreeTest");
        rankOfEveryKey(test);
        rankWhereItWraps(test);
        higherByRank(test);
        higherOfEqualRanks(test);
        equalRanksAmongOthers(test);
        treeOfNoKeys(test);
        treeOfManySets(test);
        depthOfTheTop(test);
        depthInChains(test);
        test.finish();
    }

    /** The rank by numbers that never wrap: what a wrap loses is taken away by the remainder. */
    private static long rank(int key) {
        long x = ((key + 1) * 1664525L + 1013904223L) % (1L << 32);
        return (x ^ (x / (1L << 15))) % 1048576;
    }

    private static boolean isHigher(int one, int other) {
        return rank(one) != rank(other) ? rank(one) > rank(other) : one < other;
    }

    private static void dueAbove(Due test, int higher, int lower) {
        FencedTreeHeap x = new FencedTreeHeap();
        x.put(higher, 1);
        test.due("put(" + lower + ", 1) below " + higher, x.put(lower, 1), 2);
        test.due("depth(" + higher + ")", x.depth(higher), 0);
        test.due("depth(" + lower + ")", x.depth(lower), 1);
        FencedTreeHeap y = new FencedTreeHeap();
        y.put(lower, 1);
        test.due("put(" + higher + ", 1) above " + lower, y.put(higher, 1), 1);
        test.due("depth(" + higher + ")", y.depth(higher), 0);
        test.due("depth(" + lower + ")", y.depth(lower), 1);
    }

    // Neighbours in the order of ranks: one rank that is not as told stands elsewhere in it.
    private static void rankOfEveryKey(Due test) {
        test.sentence("the rank is (x ^ (x >>> 15)) & 1048575.");
        List<Integer> keys = new ArrayList<>();
        for (int key = 0; key < 4096; key++) {
            keys.add(key);
        }
        keys.sort(Comparator.comparingLong(TermsTreeTest::rank).thenComparing(Comparator.reverseOrder()));
        for (int i = 1; i < 4096; i++) {
            dueAbove(test, keys.get(i), keys.get(i - 1));
        }
    }

    // x is beyond the greatest int from key 681 on, and beyond 32 bits from key 1971 on.
    private static void rankWhereItWraps(Due test) {
        test.sentence("The RANK of a key k: x = (k + 1) * 1664525 + 1013904223, as ints that wrap");
        int[] keys = {0, 1, 679, 680, 681, 682, 1969, 1970, 1971, 1972, 4094, 4095};
        for (int one : keys) {
            for (int other : keys) {
                if (one != other) {
                    dueAbove(test, isHigher(one, other) ? one : other, isHigher(one, other) ? other : one);
                }
            }
        }
        // Pairs of which the other one would be higher if x kept what is beyond 32 bits.
        int told = 0;
        for (int key = 0; key < 4096; key++) {
            long x = (key + 1) * 1664525L + 1013904223L;
            long unwrapped = (x ^ (x >>> 15)) & 1048575;
            for (int other = 0; other < 1971 && told < 400; other += 13) {
                if (rank(key) > rank(other) != unwrapped > rank(other)) {
                    dueAbove(test, isHigher(key, other) ? key : other, isHigher(key, other) ? other : key);
                    told++;
                }
            }
        }
        test.due("pairs that tell a wrap from none", told >= 20, true);
    }

    private static void higherByRank(Due test) {
        test.sentence("Of two keys the one with the greater rank is the HIGHER one");
        // 4095 has 943808, 9 has 824632, 7 has 678323, 0 has 532604.
        int[] falling = {4095, 9, 7, 0};
        for (int i = 0; i < 4; i++) {
            for (int j = i + 1; j < 4; j++) {
                dueAbove(test, falling[i], falling[j]);
            }
        }
    }

    private static void higherOfEqualRanks(Due test) {
        test.sentence("of equal ranks the lesser key.");
        for (int[] pair : EQUAL_RANKS) {
            test.due("ranks of " + pair[0] + " and " + pair[1], rank(pair[0]), rank(pair[1]));
            dueAbove(test, pair[0], pair[1]);
        }
    }

    // With a third key between the two or outside, below or above both.
    private static void equalRanksAmongOthers(Due test) {
        test.sentence("of equal ranks the lesser key.");
        for (int[] pair : EQUAL_RANKS) {
            for (int third = 0; third < 4096; third += 61) {
                FencedTreeHeap x = new FencedTreeHeap();
                x.put(pair[1], 1);
                x.put(third, 1);
                x.put(pair[0], 1);
                int[] depths = new int[4096];
                findDepths(keysOf(pair[0], pair[1], third), 0, depths);
                for (int key : keysOf(pair[0], pair[1], third)) {
                    test.due("depth(" + key + ") of equal ranks and " + third, x.depth(key), depths[key]);
                }
            }
        }
    }

    private static List<Integer> keysOf(Integer... keys) {
        return new ArrayList<>(new TreeSet<>(Arrays.asList(keys)));
    }

    private static void treeOfNoKeys(Due test) {
        test.sentence("(of no keys: nothing)");
        FencedTreeHeap x = new FencedTreeHeap();
        for (int round = 0; round < 2; round++) {
            test.due("size()", x.size(), 0);
            test.due("nodes()", x.nodes(), 0);
            test.due("next(least int)", x.next(Integer.MIN_VALUE), FencedTreeHeap.ABSENT);
            test.due("depth(5)", x.depth(5), FencedTreeHeap.ABSENT);
            test.due("get(5)", x.get(5), FencedTreeHeap.ABSENT);
            x.put(5, 1);
            test.due("remove of the last key", x.remove(5), 0);
        }
    }

    /** The depth of each key, by going down from the top of each part. */
    private static void findDepths(List<Integer> keys, int depth, int[] depths) {
        if (keys.isEmpty()) {
            return;
        }
        int top = keys.get(0);
        for (int key : keys) {
            top = isHigher(key, top) ? key : top;
        }
        depths[top] = depth;
        List<Integer> lesser = new ArrayList<>();
        List<Integer> greater = new ArrayList<>();
        for (int key : keys) {
            if (key < top) {
                lesser.add(key);
            } else if (key > top) {
                greater.add(key);
            }
        }
        findDepths(lesser, depth + 1, depths);
        findDepths(greater, depth + 1, depths);
    }

    private static void treeOfManySets(Due test) {
        test.sentence("The TREE of a set of keys: its top is the highest key; below it on the left is the tree"
            + " of the lesser keys, on the right the tree of the greater ones");
        for (int step = 1; step <= 141; step += 4) {
            for (int from = 0; from <= 4095 - 29 * step && from < 300; from += 37) {
                FencedTreeHeap rising = new FencedTreeHeap();
                FencedTreeHeap falling = new FencedTreeHeap();
                List<Integer> keys = new ArrayList<>();
                for (int i = 0; i < 30; i++) {
                    keys.add(from + i * step);
                    rising.put(from + i * step, 1);
                    falling.put(from + (29 - i) * step, 1);
                }
                int[] depths = new int[4096];
                findDepths(keys, 0, depths);
                for (int key : keys) {
                    test.due("depth(" + key + ") of " + keys, rising.depth(key), depths[key]);
                    test.due("depth(" + key + ") of " + keys + ", put falling", falling.depth(key), depths[key]);
                }
            }
        }
    }

    private static void depthOfTheTop(Due test) {
        test.sentence("the DEPTH of the top is 0");
        FencedTreeHeap x = new FencedTreeHeap();
        for (int i = 29; i >= 0; i--) {
            x.put(Chain.ZIGZAG[i], 1);
            test.due("depth of the top of " + (30 - i), x.depth(Chain.ZIGZAG[i]), 0);
        }
        for (int i = 0; i < 29; i++) {
            x.remove(Chain.ZIGZAG[i]);
            test.due("depth of the top of " + (29 - i), x.depth(Chain.ZIGZAG[i + 1]), 0);
        }
    }

    private static void depthInChains(Due test) {
        test.sentence("that of any other key 1 more than that of the key that it is right below.");
        for (int[] shape : Chain.SHAPES) {
            FencedTreeHeap x = Chain.full(shape);
            for (int i = 0; i < 30; i++) {
                test.due("depth(" + shape[i] + ")", x.depth(shape[i]), i);
            }
            x.remove(shape[12]);
            for (int i = 0; i < 30; i++) {
                int due = i < 12 ? i : i == 12 ? FencedTreeHeap.ABSENT : i - 1;
                test.due("depth(" + shape[i] + ") without " + shape[12], x.depth(shape[i]), due);
            }
        }
    }
}
