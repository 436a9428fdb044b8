/** Counts the answers of one test that are due and those that are not, and ends it so. */
final class Due {
    private final String test;
    private int passed;
    private int failed;

    Due(String test) {
        this.test = test;
    }

    /** A new object with these texts on the shelves from 0 on. */
    static TextShelves with(String... texts) {
        TextShelves x = new TextShelves();
        for (int i = 0; i < texts.length; i++) {
            put(x, i, texts[i]);
        }
        return x;
    }

    /** Eight signs a call, as an object is good for 512 calls. */
    static void put(TextShelves x, int shelf, String text) {
        for (int from = 0; from < text.length(); from += 8) {
            int until = Math.min(text.length(), from + 8);
            x.feed(shelf, packed(text.substring(from, until)), until - from);
        }
    }

    static long packed(String signs) {
        long all = 0;
        for (int i = signs.length() - 1; i >= 0; i--) {
            all = all << 8 | signs.charAt(i);
        }
        return all;
    }

    void is(String call, long got, long want) {
        if (got == want) {
            passed++;
            return;
        }
        failed++;
        System.out.println(test + ": " + call + " answered " + got + ", due is " + want);
    }

    void yes(String call, boolean got) {
        is(call, got ? 1 : 0, 1);
    }

    void no(String call, boolean got) {
        is(call, got ? 1 : 0, 0);
    }

    /** The length alone where the text is long: to read 300 signs would take 300 calls. */
    void text(String call, TextShelves x, int shelf, String want) {
        is(call + ", then length(" + shelf + ")", x.length(shelf), want.length());
        for (int i = 0; i < want.length() && i < 40; i++) {
            is(call + ", then charAt(" + shelf + ", " + i + ")", x.charAt(shelf, i), want.charAt(i));
        }
        is(call + ", then hash(" + shelf + ")", x.hash(shelf), want.hashCode());
    }

    boolean allPassed() {
        return failed == 0 && passed > 0;
    }

    void end() {
        System.out.println(test + ": " + passed + " passed, " + failed + " failed");
        if (!allPassed()) {
            System.exit(1);
        }
    }
}
