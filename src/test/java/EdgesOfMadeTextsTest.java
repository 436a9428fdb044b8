/** Promises 35 to 40: each sentence that names an edge, at that edge. */
public final class EdgesOfMadeTextsTest {
    private static final int MIN = Integer.MIN_VALUE;
    private static final int MAX = Integer.MAX_VALUE;
    private static final String LONG_TEXT = Due.letters(300);
    private static final int[] NO_SIGNS = {-1, -2, 128, 255, 256, 'a' - 128, 'a' + 128, 'a' - 256, 'a' + 256,
        'a' + 65536, MIN, MIN + 'a', MAX};

    public static void main(String[] args) throws ReflectiveOperationException {
        Edges.run(EdgesOfMadeTextsTest.class);
    }

    // ---- replaceSign

    private static void replacesSign(Due due, String text, int sign, int other) {
        TextShelves x = Due.with(text, "an old text");
        String call = "replaceSign(0, " + sign + ", " + other + ", 1) of " + text.length() + " signs";
        due.is(call, x.replaceSign(0, sign, other, 1), text.length());
        due.text(call, x, 1, text.replace((char) sign, (char) other));
        due.text(call, x, 0, text);
    }

    @Says(promise = 35, value = "`sign`: 0 to 127")
    static void replaceSignTakes0And127(Due due) {
        replacesSign(due, "\0a\u007fb\0", 0, 'c');
        replacesSign(due, "\0a\u007fb\0", 127, 'c');
        replacesSign(due, "\0a\u007fb\0", 1, 'c');
        replacesSign(due, "\0a\u007fb\0", 126, 'c');
    }

    @Says(promise = 35, value = "`sign`: 0 to 127")
    static void replaceSignRefusesWhatIsNoSign(Due due) {
        Twins twins = new Twins(due, "abc", "", LONG_TEXT);
        for (int sign : NO_SIGNS) {
            String call = "replaceSign(.., " + sign + ", 'z', ..)";
            twins.refuse(call, TextShelves.UNFIT, x -> x.replaceSign(0, sign, 'z', 0));
            twins.refuse(call + " of none", TextShelves.UNFIT, x -> x.replaceSign(1, sign, 'z', 0));
            twins.refuse(call + " of 300", TextShelves.UNFIT, x -> x.replaceSign(2, sign, 'z', 0));
        }
    }

    @Says(promise = 35, value = "`other`: 0 to 127")
    static void replaceSignByTakes0And127(Due due) {
        replacesSign(due, "abcabc", 'a', 0);
        replacesSign(due, "abcabc", 'a', 127);
        replacesSign(due, "abcabc", 'b', 1);
        replacesSign(due, "abcabc", 'b', 126);
    }

    @Says(promise = 35, value = "`other`: 0 to 127")
    static void replaceSignByRefusesWhatIsNoSign(Due due) {
        Twins twins = new Twins(due, "abc", "");
        for (int other : NO_SIGNS) {
            String call = "replaceSign(.., .., " + other + ", ..)";
            twins.refuse(call, TextShelves.UNFIT, x -> x.replaceSign(0, 'a', other, 0));
            twins.refuse(call + " where nothing is replaced", TextShelves.UNFIT, x -> x.replaceSign(0, 'z', other, 1));
            twins.refuse(call + " of none", TextShelves.UNFIT, x -> x.replaceSign(1, 'a', other, 0));
            twins.refuse(call + " by itself", TextShelves.UNFIT, x -> x.replaceSign(0, other, other, 0));
        }
    }

    @Says(promise = 35, value = "Lays a text in which each sign of one sort has become another one.")
    static void replaceSignAtTheFirstAndTheLastPlace(Due due) {
        replacesSign(due, "abca", 'a', 'z');
        replacesSign(due, "a", 'a', 'z');
        replacesSign(due, "abca", 'z', 'a');
        replacesSign(due, "abca", 'a', 'a');
        replacesSign(due, "abca", 'a', 'b');
        replacesSign(due, "aAa", 'a', 'b');
    }

    @Says(promise = 35, value = "Returns how many signs")
    static void replaceSignOfAnEmptyAndOfAFullText(Due due) {
        replacesSign(due, "", 'a', 'b');
        replacesSign(due, "a".repeat(300), 'a', 'b');
        replacesSign(due, LONG_TEXT, LONG_TEXT.charAt(299), 'Z');
    }

    // ---- replaceText

    private static void replacesText(Due due, String text, String piece, String by) {
        TextShelves x = Due.with(text, piece, by, "an old text");
        String want = text.replace(piece, by);
        String call = "replaceText(0, 1, 2, 3) up to " + want.length();
        due.is(call, x.replaceText(0, 1, 2, 3), want.length());
        due.text(call, x, 3, want);
        due.text(call, x, 0, text);
    }

    @Says(promise = 36, value = "UNFIT: what is looked for is empty")
    static void replaceTextOfAnEmptyPieceIsUnfit(Due due) {
        Twins twins = new Twins(due, "abc", "", LONG_TEXT, "old");
        twins.refuse("replaceText(0, 1, 3, 3)", TextShelves.UNFIT, x -> x.replaceText(0, 1, 3, 3));
        twins.refuse("replaceText(0, 1, 1, 0)", TextShelves.UNFIT, x -> x.replaceText(0, 1, 1, 0));
        twins.refuse("replaceText(1, 1, 0, 3)", TextShelves.UNFIT, x -> x.replaceText(1, 1, 0, 3));
        twins.refuse("replaceText(1, 1, 1, 1)", TextShelves.UNFIT, x -> x.replaceText(1, 1, 1, 1));
        twins.refuse("replaceText(2, 1, 2, 3)", TextShelves.UNFIT, x -> x.replaceText(2, 1, 2, 3));
    }

    @Says(promise = 36, value = "UNFIT: what is looked for is empty")
    static void replaceTextOfAPieceOfOneSign(Due due) {
        replacesText(due, "abcab", "a", "xy");
        replacesText(due, "a", "a", "");
        replacesText(due, "\0a\0", "\0", "b");
    }

    @Says(promise = 36, value = "Returns how many signs; UNFIT: what is looked for is empty; FULL.")
    static void replaceTextUpTo300Signs(Due due) {
        replacesText(due, "a".repeat(150), "a", "bc");
        replacesText(due, "a".repeat(100), "a", "bcd");
        replacesText(due, "a".repeat(298) + "X", "X", "yz");
        replacesText(due, "X" + "a".repeat(298), "X", "yz");
        replacesText(due, "a", "a", LONG_TEXT);
        replacesText(due, LONG_TEXT, LONG_TEXT, LONG_TEXT);
        replacesText(due, "a".repeat(300), "a", "b");
    }

    private static void replaceTextIsFull(Due due, String text, String piece, String by) {
        Twins twins = new Twins(due, text, piece, by, "an old text");
        String call = "replaceText() of " + text.length() + ", " + piece.length() + " and " + by.length() + " signs";
        for (int to = 0; to < 4; to++) {
            int told = to;
            twins.refuse(call, TextShelves.FULL, x -> x.replaceText(0, 1, 2, told));
        }
    }

    @Says(promise = 36, value = "Returns how many signs; UNFIT: what is looked for is empty; FULL.")
    static void replaceTextRefuses301SignsAndMore(Due due) {
        replaceTextIsFull(due, "a".repeat(150) + "b", "a", "bc");
        replaceTextIsFull(due, "a".repeat(299) + "X", "X", "yz");
        replaceTextIsFull(due, "X" + "a".repeat(299), "X", "yz");
        replaceTextIsFull(due, "ab", "a", LONG_TEXT);
        replaceTextIsFull(due, "a".repeat(300), "a", LONG_TEXT);
    }

    @Says(promise = 36, value = "looked for from the left, each behind the end of the one ahead")
    static void replaceTextGoesFromTheLeftBehindEachFind(Due due) {
        replacesText(due, "aaa", "aa", "b");
        replacesText(due, "aaaa", "aa", "b");
        replacesText(due, "ababa", "aba", "x");
        replacesText(due, "aab", "ab", "b");
        replacesText(due, "aabb", "ab", "");
        replacesText(due, "aa", "a", "aa");
        replacesText(due, "aab", "ab", "a");
    }

    @Says(promise = 36, value = "Lays a text in which each find of the text of another shelf")
    static void replaceTextAtTheBeginningAndTheEnd(Due due) {
        replacesText(due, "abXab", "ab", "Y");
        replacesText(due, "ab", "ab", "Y");
        replacesText(due, "ab", "ab", "");
        replacesText(due, "ab", "abc", "Y");
        replacesText(due, "cab", "abc", "Y");
        replacesText(due, "ab", "AB", "Y");
    }

    @Says(promise = 36, value = "has become the text of a third one")
    static void replaceTextOfAnEmptyTextAndByAnEmptyOne(Due due) {
        replacesText(due, "", "a", "b");
        replacesText(due, "", "a", "");
        replacesText(due, "abcabc", "abc", "");
        replacesText(due, "a".repeat(300), "a", "");
        replacesText(due, LONG_TEXT, LONG_TEXT, "");
    }

    // ---- trim and strip

    private static void trims(Due due, String text) {
        TextShelves x = Due.with(text, "an old text of many signs");
        String call = "trim(0, 1) of " + text.length() + " signs";
        due.is(call, x.trim(0, 1), text.trim().length());
        due.text(call, x, 1, text.trim());
    }

    private static void strips(Due due, String text) {
        TextShelves x = Due.with(text, "an old text of many signs");
        String call = "strip(0, 1) of " + text.length() + " signs";
        due.is(call, x.strip(0, 1), text.strip().length());
        due.text(call, x, 1, text.strip());
    }

    @Says(promise = 37, value = "Lays a text without signs of 32 and below at its beginning and its end.")
    static void trimTakes0To32ButNot33(Due due) {
        for (int sign = 0; sign < 128; sign++) {
            TextShelves x = new TextShelves();
            x.type(0, sign);
            due.is("trim() of " + sign, x.trim(0, 1), sign <= 32 ? 0 : 1);
            x.type(0, 'a');
            due.is("trim() of " + sign + " and a", x.trim(0, 1), sign <= 32 ? 1 : 2);
            x.turn(0, 0);
            due.is("trim() of a and " + sign, x.trim(0, 1), sign <= 32 ? 1 : 2);
        }
    }

    @Says(promise = 37, value = "Lays a text without signs of 32 and below at its beginning and its end.")
    static void trimLeavesWhatStandsBetween(Due due) {
        trims(due, " \0a \t b\u001b ");
        trims(due, "a");
        trims(due, "!  !");
        trims(due, "a b");
    }

    @Says(promise = 37, value = "Lays a text without signs of 32 and below at its beginning and its end.")
    static void trimOfAnEmptyAndOfAFullText(Due due) {
        trims(due, "");
        trims(due, " ");
        trims(due, " ".repeat(300));
        trims(due, " ".repeat(299) + "a");
        trims(due, "a" + " ".repeat(299));
        trims(due, " ".repeat(150) + "a" + " ".repeat(149));
        trims(due, LONG_TEXT);
    }

    @Says(promise = 38, value = "Lays a text without BLANK signs at its beginning and its end.")
    static void stripTakesBlankSignsAlone(Due due) {
        for (int sign = 0; sign < 128; sign++) {
            boolean blank = sign >= 9 && sign <= 13 || sign >= 28 && sign <= 32;
            TextShelves x = new TextShelves();
            x.type(0, sign);
            due.is("strip() of " + sign, x.strip(0, 1), blank ? 0 : 1);
            x.type(0, 'a');
            due.is("strip() of " + sign + " and a", x.strip(0, 1), blank ? 1 : 2);
            x.turn(0, 0);
            due.is("strip() of a and " + sign, x.strip(0, 1), blank ? 1 : 2);
        }
    }

    @Says(promise = 38, value = "Lays a text without BLANK signs at its beginning and its end.")
    static void stripLeavesWhatStandsBetween(Due due) {
        strips(due, " \ta \t b\u001c ");
        strips(due, " \0 a \u001b ");
        strips(due, "a");
        strips(due, "\0  \0");
    }

    @Says(promise = 38, value = "Lays a text without BLANK signs at its beginning and its end.")
    static void stripOfAnEmptyAndOfAFullText(Due due) {
        strips(due, "");
        strips(due, " ");
        strips(due, "\t".repeat(300));
        strips(due, " ".repeat(299) + "a");
        strips(due, "a" + " ".repeat(299));
        strips(due, " ".repeat(150) + "a" + " ".repeat(149));
        strips(due, LONG_TEXT);
    }

    // ---- repeat

    private static void repeats(Due due, String text, int times) {
        TextShelves x = Due.with(text, "an old text");
        String want = text.repeat(times);
        String call = "repeat(0, " + times + ", 1) of " + text.length() + " signs";
        due.is(call, x.repeat(0, times, 1), want.length());
        due.text(call, x, 1, want);
        due.text(call, x, 0, text);
    }

    private static void repeatIs(Due due, int answer, String text, int times) {
        Twins twins = new Twins(due, text, "old");
        String call = "repeat(0, " + times + ", ..) of " + text.length() + " signs";
        twins.refuse(call, answer, x -> x.repeat(0, times, 1));
        twins.refuse(call, answer, x -> x.repeat(0, times, 0));
    }

    @Says(promise = 39, value = "BAD: times is below 0")
    static void repeat0TimesLaysAnEmptyText(Due due) {
        repeats(due, "", 0);
        repeats(due, "abc", 0);
        repeats(due, LONG_TEXT, 0);
    }

    @Says(promise = 39, value = "BAD: times is below 0")
    static void repeatFewerThan0TimesIsBad(Due due) {
        for (int times : new int[] {-1, -2, -300, MIN + 1, MIN}) {
            repeatIs(due, TextShelves.BAD, "", times);
            repeatIs(due, TextShelves.BAD, "abc", times);
            repeatIs(due, TextShelves.BAD, LONG_TEXT, times);
        }
    }

    @Says(promise = 39, value = "Returns how many signs; BAD: times is below 0; FULL.")
    static void repeatUpTo300Signs(Due due) {
        repeats(due, "a", 300);
        repeats(due, "abc", 100);
        repeats(due, LONG_TEXT.substring(0, 150), 2);
        repeats(due, LONG_TEXT, 1);
        repeats(due, "abcdefg", 42);
    }

    @Says(promise = 39, value = "Returns how many signs; BAD: times is below 0; FULL.")
    static void repeatRefuses301SignsAndMore(Due due) {
        repeatIs(due, TextShelves.FULL, "a", 301);
        repeatIs(due, TextShelves.FULL, "abc", 101);
        repeatIs(due, TextShelves.FULL, "abcdefg", 43);
        repeatIs(due, TextShelves.FULL, LONG_TEXT.substring(0, 151), 2);
        repeatIs(due, TextShelves.FULL, LONG_TEXT, 2);
        repeatIs(due, TextShelves.FULL, "a", MAX);
    }

    @Says(promise = 39, value = "FULL.")
    static void repeatRefusesWhatWouldWrap(Due due) {
        // As ints these would be 0, 2, 4, -4, 104 and -300 signs.
        repeatIs(due, TextShelves.FULL, "abcd", 1 << 30);
        repeatIs(due, TextShelves.FULL, "abc", 1431655766);
        repeatIs(due, TextShelves.FULL, "abcd", (1 << 30) + 1);
        repeatIs(due, TextShelves.FULL, "abcd", MAX);
        repeatIs(due, TextShelves.FULL, LONG_TEXT, 14316558);
        repeatIs(due, TextShelves.FULL, LONG_TEXT, MAX);
    }

    @Says(promise = 39, value = "Lays a text some times, one behind the other.")
    static void repeatOfAnEmptyTextIsEmptyAnyNumberOfTimes(Due due) {
        for (int times : new int[] {1, 2, 300, 301, MAX - 1, MAX}) {
            TextShelves x = Due.with("", "an old text");
            due.is("repeat(0, " + times + ", 1) of none", x.repeat(0, times, 1), 0);
            due.text("repeat(0, " + times + ", 1) of none", x, 1, "");
        }
    }

    // ---- turn

    @Says(promise = 40, value = "Lays the signs of a text from the last one to the first one.")
    static void turnOfAnEmptyAndOfAFullText(Due due) {
        for (String text : new String[] {"", "a", "ab", "abc", LONG_TEXT.substring(1), LONG_TEXT}) {
            TextShelves x = Due.with(text, "an old text of many signs");
            String want = new StringBuilder(text).reverse().toString();
            due.is("turn(0, 1) of " + text.length() + " signs", x.turn(0, 1), text.length());
            due.text("turn(0, 1) of " + text.length() + " signs", x, 1, want);
            due.text("turn(0, 1) of " + text.length() + " signs", x, 0, text);
        }
    }

    @Says(promise = 40, value = "Lays the signs of a text from the last one to the first one.")
    static void turnOntoTheSameShelf(Due due) {
        for (String text : new String[] {"", "a", "ab", "abc", LONG_TEXT}) {
            TextShelves x = Due.with(text);
            String want = new StringBuilder(text).reverse().toString();
            due.is("turn(0, 0) of " + text.length() + " signs", x.turn(0, 0), text.length());
            due.text("turn(0, 0) of " + text.length() + " signs", x, 0, want);
        }
    }
}
