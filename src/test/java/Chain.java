/** Thirty keys whose tree is a chain: each is right below the one before it. */
final class Chain {
    static final int[] KEYS = {
        28, 45, 62, 74, 91, 154, 171, 193, 210, 222, 239, 302, 341, 358, 404,
        484, 547, 610, 673, 712, 719, 736, 753, 833, 913, 930, 993, 1037, 1117, 1180,
    };

    /** The last key, which is lower than all of them, and greater. */
    static final int BELOW = 1260;

    private Chain() {
    }

    static FencedTreeHeap full() {
        FencedTreeHeap x = new FencedTreeHeap();
        for (int key : KEYS) {
            x.put(key, 1);
        }
        return x;
    }
}
