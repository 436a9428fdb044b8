/** Counts the answers of one test that are due and those that are not, and ends it so. */
final class Due {
    private final String test;
    private String name = "";
    private int passed;
    private int failed;
    private int asked;
    private int named;

    Due(String test) {
        this.test = test;
    }

    /** A new object with these texts on the shelves from 0 on. */
    static TextShelves with(String... texts) {
        TextShelves x = new TextShelves();
        for (int i = 0; i < texts.length; i++) {
            put(x, i, texts[i]);
        }
        return x;
    }

    /** Eight signs a call, as an object is good for 512 calls. */
    static void put(TextShelves x, int shelf, String text) {
        for (int from = 0; from < text.length(); from += 8) {
            int until = Math.min(text.length(), from + 8);
            x.feed(shelf, packed(text.substring(from, until)), until - from);
        }
    }

    static long packed(String signs) {
        long all = 0;
        for (int i = signs.length() - 1; i >= 0; i--) {
            all = all << 8 | signs.charAt(i);
        }
        return all;
    }

    /** A row of letters that no shift makes alike, so that a place that is off by any number shows. */
    static String letters(int n) {
        StringBuilder text = new StringBuilder();
        int seed = 1;
        for (int i = 0; i < n; i++) {
            seed = seed * 1103515245 + 12345;
            text.append((char) ('a' + (seed >>> 16) % 26));
        }
        return text.toString();
    }

    /** From here on up to close() the answers are those of the test of this name. */
    void begin(String name) {
        this.name = "." + name;
        asked = passed + failed;
    }

    /** A test that asks nothing holds nothing. */
    void close() {
        if (passed + failed == asked) {
            is("how many answers are looked at", 0, 1);
        }
        name = "";
        named++;
    }

    void is(String call, long got, long want) {
        if (got == want) {
            passed++;
            return;
        }
        failed++;
        System.out.println(test + name + ": " + call + " answered " + got + ", due is " + want);
    }

    void yes(String call, boolean got) {
        is(call, got ? 1 : 0, 1);
    }

    void no(String call, boolean got) {
        is(call, got ? 1 : 0, 0);
    }

    /** The length alone where the text is long: to read 300 signs would take 300 calls. */
    void text(String call, TextShelves x, int shelf, String want) {
        is(call + ", then length(" + shelf + ")", x.length(shelf), want.length());
        for (int i = 0; i < want.length() && i < 40; i++) {
            is(call + ", then charAt(" + shelf + ", " + i + ")", x.charAt(shelf, i), want.charAt(i));
        }
        is(call + ", then hash(" + shelf + ")", x.hash(shelf), want.hashCode());
    }

    boolean allPassed() {
        return failed == 0 && passed > 0;
    }

    void end() {
        String tests = named > 0 ? named + " tests by name, answers: " : "";
        System.out.println(test + ": " + tests + passed + " passed, " + failed + " failed");
        if (!allPassed()) {
            System.exit(1);
        }
    }
}
