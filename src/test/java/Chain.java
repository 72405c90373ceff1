/** Thirty keys each, from the top down, whose tree is a chain. */
final class Chain {
    /** Each is right below the one before it, on its right. */
    static final int[] KEYS = {
        28, 45, 62, 74, 91, 154, 171, 193, 210, 222, 239, 302, 341, 358, 404,
        484, 547, 610, 673, 712, 719, 736, 753, 833, 913, 930, 993, 1037, 1117, 1180,
    };

    /** Lower than all of KEYS, and greater. */
    static final int BELOW = 1260;

    /** Each is right below the one before it, on its left. */
    static final int[] LEFT = {
        4054, 3991, 3928, 3877, 3865, 3848, 3826, 3809, 3792, 3780, 3763, 3761, 3744, 3732, 3715,
        3693, 3659, 3647, 3630, 3628, 3611, 3582, 3502, 3439, 3422, 3359, 3296, 3240, 3233, 3216,
    };

    /** On the right and on the left by turns. */
    static final int[] ZIGZAG = {
        28, 4054, 45, 4008, 74, 3957, 91, 3906, 113, 3889, 130, 3872, 142, 3843, 159,
        3841, 198, 3824, 215, 3807, 227, 3795, 244, 3778, 266, 3756, 283, 3739, 295, 3710,
    };

    static final int[][] SHAPES = {KEYS, LEFT, ZIGZAG};

    private Chain() {
    }

    static FencedTreeHeap full() {
        return full(KEYS);
    }

    /** All of these keys, each with the value 1. */
    static FencedTreeHeap full(int[] keys) {
        FencedTreeHeap x = new FencedTreeHeap();
        for (int key : keys) {
            x.put(key, 1);
        }
        return x;
    }

    /** The first of KEYS so many, each with the value 1. */
    static FencedTreeHeap first(int count) {
        FencedTreeHeap x = new FencedTreeHeap();
        for (int i = 0; i < count; i++) {
            x.put(KEYS[i], 1);
        }
        return x;
    }
}
