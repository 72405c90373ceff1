/** Compares answers with those that are due; prints every one that is not. */
final class Due {
    private final String test;
    private int asked;
    private int wrong;

    Due(String test) {
        this.test = test;
    }

    void due(String call, long got, long want) {
        asked++;
        if (got != want) {
            wrong++;
            System.out.println(test + ": " + call + " answered " + got + ", due is " + want);
        }
    }

    void due(String call, boolean got, boolean want) {
        due(call, got ? 1 : 0, want ? 1 : 0);
    }

    /** Every answer that can be asked for without a change, in one row. */
    void dueSame(String call, FencedTreeHeap got, String want) {
        asked++;
        String seen = seen(got);
        if (!seen.equals(want)) {
            wrong++;
            System.out.println(test + ": after " + call + " there is " + seen + ", due is " + want);
        }
    }

    static String seen(FencedTreeHeap x) {
        StringBuilder text = new StringBuilder();
        text.append(x.size()).append(' ').append(x.nodes());
        text.append(' ').append(x.events()).append(' ').append(x.fences());
        for (int key = x.next(0); key >= 0; key = x.next(key + 1)) {
            text.append(' ').append(key).append('=').append(x.get(key));
            text.append('@').append(x.depth(key));
        }
        for (int slot = 0; slot < 2; slot++) {
            text.append(" slot ").append(x.heldNext(slot, 0));
            for (int key = x.heldNext(slot, 0); key >= 0; key = x.heldNext(slot, key + 1)) {
                text.append(' ').append(key).append('=').append(x.heldGet(slot, key));
            }
        }
        return text.toString();
    }

    void finish() {
        System.out.println(test + ": " + asked + " answers, " + wrong + " not as due");
        if (wrong != 0 || asked == 0) {
            System.exit(1);
        }
    }
}
