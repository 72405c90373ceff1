/** Compares answers with those that are due; prints every one that is not. */
final class Due {
    private final String test;
    private String sentence;
    private int sentences;
    private int askedOfSentence;
    private int asked;
    private int wrong;

    Due(String test) {
        this.test = test;
    }

    /** The words of the document that make the answers from here on due. */
    void sentence(String words) {
        closeSentence();
        sentence = words;
        sentences++;
        askedOfSentence = 0;
    }

    private void closeSentence() {
        if (sentence != null && askedOfSentence == 0) {
            wrong++;
            System.out.println(test + ": nothing was asked of \"" + sentence + "\"");
        }
    }

    private void count(boolean isDue, String text) {
        asked++;
        askedOfSentence++;
        if (!isDue) {
            wrong++;
            String of = sentence == null ? "" : "   (\"" + sentence + "\")";
            System.out.println(test + ": " + text + of);
        }
    }

    void due(String call, long got, long want) {
        count(got == want, call + " answered " + got + ", due is " + want);
    }

    void due(String call, boolean got, boolean want) {
        count(got == want, call + " answered " + got + ", due is " + want);
    }

    void due(String call, String got, String want) {
        count(got.equals(want), call + " answered " + got + ", due is " + want);
    }

    /** Every answer that can be asked for without a change, compared with an earlier row of them. */
    void dueSame(String call, FencedTreeHeap got, String want) {
        String seen = seen(got);
        count(seen.equals(want), "after " + call + " there is " + seen + ", due is " + want);
    }

    static String seen(FencedTreeHeap x) {
        StringBuilder text = new StringBuilder();
        text.append(x.events()).append(' ').append(x.fences());
        text.append(' ').append(x.nodes()).append(' ').append(seenMap(x));
        for (int slot = 0; slot < 2; slot++) {
            int key = x.heldNext(slot, Integer.MIN_VALUE);
            text.append(" slot ").append(key);
            while (key >= 0) {
                text.append(' ').append(key).append('=').append(x.heldGet(slot, key));
                key = x.heldNext(slot, key + 1);
            }
        }
        return text.toString();
    }

    /** The keys with their values and depths. */
    static String seenMap(FencedTreeHeap x) {
        StringBuilder text = new StringBuilder();
        text.append(x.size());
        for (int key = x.next(Integer.MIN_VALUE); key >= 0; key = x.next(key + 1)) {
            text.append(' ').append(key).append('=').append(x.get(key));
            text.append('@').append(x.depth(key));
        }
        return text.toString();
    }

    void finish() {
        closeSentence();
        System.out.println(test + ": " + sentences + " sentences, " + asked + " answers, "
            + wrong + " not as due");
        if (wrong != 0 || asked == 0) {
            System.exit(1);
        }
    }
}
