/** Promises 12 to 20: each sentence that names an edge, at that edge. */
public final class EdgesOfOneTextTest {
    private static final int MIN = Integer.MIN_VALUE;
    private static final int MAX = Integer.MAX_VALUE;
    private static final String LONG_TEXT = Due.letters(300);
    private static final String EVERY_BLANK = "\t\n\u000b\f\r\u001c\u001d\u001e\u001f ";
    private static final int[] NO_SIGNS = {-1, 128, 255, 256, 'a' - 128, 'a' + 128, 'a' - 256, 'a' + 256,
        'a' + 65536, MIN, MIN + 'a', MAX};

    public static void main(String[] args) throws ReflectiveOperationException {
        Edges.run(EdgesOfOneTextTest.class);
    }

    private static String everySign() {
        StringBuilder text = new StringBuilder();
        for (int sign = 0; sign < 128; sign++) {
            text.append((char) sign);
        }
        return text.toString();
    }

    // ---- length, isEmpty, isBlank

    @Says(promise = 12, value = "Returns how many signs a text has.")
    static void lengthIs0To300(Due due) {
        TextShelves x = Due.with("", "a", LONG_TEXT.substring(0, 299), LONG_TEXT);
        due.is("length() of none", x.length(0), 0);
        due.is("length() of one", x.length(1), 1);
        due.is("length() of 299", x.length(2), 299);
        due.is("length() of 300", x.length(3), 300);
    }

    @Says(promise = 12, value = "Returns how many signs a text has.")
    static void lengthCountsTheSign0(Due due) {
        TextShelves x = Due.with("\0", "\0\0a\0");
        due.is("length() of the sign 0", x.length(0), 1);
        due.is("length() with signs 0", x.length(1), 4);
    }

    @Says(promise = 13, value = "Tells whether a text has no signs.")
    static void isEmptyOfNoSignsAlone(Due due) {
        TextShelves x = Due.with("", "\0", " ", "a", LONG_TEXT);
        due.yes("isEmpty() of none", x.isEmpty(0));
        due.no("isEmpty() of the sign 0", x.isEmpty(1));
        due.no("isEmpty() of a blank", x.isEmpty(2));
        due.no("isEmpty() of one", x.isEmpty(3));
        due.no("isEmpty() of 300", x.isEmpty(4));
        x.wipe(4);
        due.yes("isEmpty() behind wipe()", x.isEmpty(4));
    }

    @Says(promise = 14, value = "Tells whether a text has no signs but BLANK ones.")
    static void isBlankOfAnEmptyText(Due due) {
        TextShelves x = Due.with("a");
        due.yes("isBlank() at first", x.isBlank(1));
        x.wipe(0);
        due.yes("isBlank() behind wipe()", x.isBlank(0));
    }

    @Says(promise = 14, value = "Tells whether a text has no signs but BLANK ones.")
    static void isBlankOfBlankSignsAlone(Due due) {
        for (int sign = 0; sign < 128; sign++) {
            TextShelves x = new TextShelves();
            x.type(0, sign);
            due.is("isBlank() of " + sign, x.isBlank(0) ? 1 : 0, EVERY_BLANK.indexOf(sign) >= 0 ? 1 : 0);
        }
    }

    @Says(promise = 14, value = "Tells whether a text has no signs but BLANK ones.")
    static void isBlankLooksAtTheFirstAndTheLastSign(Due due) {
        String blanks = EVERY_BLANK.repeat(30);
        TextShelves x = Due.with(blanks, "a" + blanks.substring(1), blanks.substring(1) + "a",
            blanks.substring(0, 150) + "\u001b" + blanks.substring(151));
        due.yes("isBlank() of 300 blanks", x.isBlank(0));
        due.no("isBlank() with another first sign", x.isBlank(1));
        due.no("isBlank() with another last sign", x.isBlank(2));
        due.no("isBlank() with another sign between", x.isBlank(3));
    }

    // ---- charAt

    @Says(promise = 15, value = "Returns the sign; BEYOND: there is no such place.")
    static void charAtTheFirstAndTheLastPlace(Due due) {
        TextShelves x = Due.with("a", LONG_TEXT);
        due.is("charAt(0, 0)", x.charAt(0, 0), 'a');
        due.is("charAt(1, 0)", x.charAt(1, 0), LONG_TEXT.charAt(0));
        due.is("charAt(1, 299)", x.charAt(1, 299), LONG_TEXT.charAt(299));
    }

    @Says(promise = 15, value = "BEYOND: there is no such place.")
    static void charAtBelow0IsBeyond(Due due) {
        for (int place : new int[] {-1, -2, -300, MIN + 1, MIN}) {
            Twins twins = new Twins(due, "abc", LONG_TEXT);
            twins.refuse("charAt(0, " + place + ")", TextShelves.BEYOND, x -> x.charAt(0, place));
            twins.refuse("charAt(1, " + place + ")", TextShelves.BEYOND, x -> x.charAt(1, place));
        }
    }

    @Says(promise = 15, value = "BEYOND: there is no such place.")
    static void charAtTheLengthAndAboveIsBeyond(Due due) {
        Twins twins = new Twins(due, "abc", LONG_TEXT);
        for (int place : new int[] {3, 4, 299, 300, MAX - 1, MAX}) {
            twins.refuse("charAt(0, " + place + ")", TextShelves.BEYOND, x -> x.charAt(0, place));
        }
        for (int place : new int[] {300, 301, MAX}) {
            twins.refuse("charAt(1, " + place + ")", TextShelves.BEYOND, x -> x.charAt(1, place));
        }
    }

    @Says(promise = 15, value = "BEYOND: there is no such place.")
    static void anEmptyTextHasNoPlace(Due due) {
        Twins twins = new Twins(due);
        for (int place : new int[] {MIN, -1, 0, 1, MAX}) {
            twins.refuse("charAt(0, " + place + ")", TextShelves.BEYOND, x -> x.charAt(0, place));
        }
        TextShelves x = Due.with("abc");
        x.wipe(0);
        due.is("charAt(0, 0) behind wipe()", x.charAt(0, 0), TextShelves.BEYOND);
    }

    @Says(promise = 15, value = "Returns the sign at a place.")
    static void charAtReturnsTheSigns0And127(Due due) {
        TextShelves x = Due.with("\0\u007f");
        due.is("charAt(0, 0)", x.charAt(0, 0), 0);
        due.is("charAt(0, 1)", x.charAt(0, 1), 127);
    }

    // ---- hash

    @Says(promise = 16, value = "h is 0; for each sign, from the first on")
    static void hashOfAnEmptyTextIs0(Due due) {
        TextShelves x = Due.with("", "\0", "\0\0");
        due.is("hash() of none", x.hash(0), 0);
        due.is("hash() of the sign 0", x.hash(1), 0);
        due.is("hash() of two signs 0", x.hash(2), 0);
    }

    @Says(promise = 16, value = "for each sign, from the first on, h becomes 31 * h and the sign, together")
    static void hashGoesFromTheFirstSignOn(Due due) {
        TextShelves x = Due.with("ab", "ba", "a\0", "\0a");
        due.is("hash() of ab", x.hash(0), 31 * 97 + 98);
        due.is("hash() of ba", x.hash(1), 31 * 98 + 97);
        due.is("hash() of a and 0", x.hash(2), 31 * 97);
        due.is("hash() of 0 and a", x.hash(3), 97);
    }

    @Says(promise = 16, value = "as an int that wraps")
    static void hashWraps(Due due) {
        // The hash of the first one wraps to the least int.
        String[] texts = {"polygenelubricants", "zzzzzz", "zzzzzzz", "\u007f".repeat(300), LONG_TEXT};
        TextShelves x = Due.with(texts);
        due.is("hash() that wraps to MIN", x.hash(0), MIN);
        for (int i = 0; i < texts.length; i++) {
            due.is("hash() of text " + i, x.hash(i), texts[i].hashCode());
        }
    }

    // ---- first and firstFrom

    @Says(promise = 17, value = "Returns the first place of a sign, told by any int")
    static void firstOfEachSign(Due due) {
        TextShelves x = Due.with(everySign() + everySign());
        for (int sign = 0; sign < 128; sign++) {
            due.is("first(0, " + sign + ")", x.first(0, sign), sign);
        }
    }

    @Says(promise = 17, value = "told by any int; one that is no sign has none")
    static void firstOfNoSignIsNone(Due due) {
        TextShelves x = Due.with(everySign(), "");
        for (int sign : NO_SIGNS) {
            due.is("first(0, " + sign + ")", x.first(0, sign), TextShelves.NONE);
            due.is("first(1, " + sign + ")", x.first(1, sign), TextShelves.NONE);
            due.is("firstFrom(0, " + sign + ", 0)", x.firstFrom(0, sign, 0), TextShelves.NONE);
        }
    }

    @Says(promise = 17, value = "Returns the place; NONE.")
    static void firstAtTheFirstAndTheLastPlace(Due due) {
        TextShelves x = Due.with("A" + LONG_TEXT.substring(2) + "Z", "", LONG_TEXT);
        due.is("first() of the first sign", x.first(0, 'A'), 0);
        due.is("first() of the last sign", x.first(0, 'Z'), 299);
        due.is("first() in an empty text", x.first(1, 'A'), TextShelves.NONE);
        due.is("first(0) in an empty text", x.first(1, 0), TextShelves.NONE);
        due.is("first() of a sign that a full text does not have", x.first(2, 'Z'), TextShelves.NONE);
    }

    @Says(promise = 18, value = "`from`: any int; below 0 it counts as 0")
    static void firstFromBelow0IsFirstFrom0(Due due) {
        TextShelves x = Due.with("abab", "");
        for (int from : new int[] {MIN, MIN + 1, -300, -2, -1, 0}) {
            due.is("firstFrom(0, 'a', " + from + ")", x.firstFrom(0, 'a', from), 0);
            due.is("firstFrom(0, 'b', " + from + ")", x.firstFrom(0, 'b', from), 1);
            due.is("firstFrom(0, 'c', " + from + ")", x.firstFrom(0, 'c', from), TextShelves.NONE);
            due.is("firstFrom(1, 'a', " + from + ")", x.firstFrom(1, 'a', from), TextShelves.NONE);
        }
    }

    @Says(promise = 18, value = "Returns the first place of a sign that is no less than a start.")
    static void firstFromIsAtTheStartAtTheLeast(Due due) {
        TextShelves x = Due.with("abab");
        due.is("firstFrom(0, 'a', 1)", x.firstFrom(0, 'a', 1), 2);
        due.is("firstFrom(0, 'a', 2)", x.firstFrom(0, 'a', 2), 2);
        due.is("firstFrom(0, 'a', 3)", x.firstFrom(0, 'a', 3), TextShelves.NONE);
        due.is("firstFrom(0, 'b', 3)", x.firstFrom(0, 'b', 3), 3);
    }

    @Says(promise = 18, value = "`from`: any int")
    static void firstFromTheLengthAndAboveIsNone(Due due) {
        TextShelves x = Due.with("abab", "a".repeat(300), "");
        for (int from : new int[] {4, 5, 299, 300, MAX - 1, MAX}) {
            due.is("firstFrom(0, 'b', " + from + ")", x.firstFrom(0, 'b', from), TextShelves.NONE);
        }
        due.is("firstFrom(1, 'a', 299)", x.firstFrom(1, 'a', 299), 299);
        due.is("firstFrom(1, 'a', 300)", x.firstFrom(1, 'a', 300), TextShelves.NONE);
        due.is("firstFrom(1, 'a', MAX)", x.firstFrom(1, 'a', MAX), TextShelves.NONE);
        due.is("firstFrom(2, 'a', 0)", x.firstFrom(2, 'a', 0), TextShelves.NONE);
        due.is("firstFrom(2, 'a', MAX)", x.firstFrom(2, 'a', MAX), TextShelves.NONE);
    }

    // ---- last and lastFrom

    @Says(promise = 19, value = "Returns the last place of a sign.")
    static void lastOfEachSign(Due due) {
        TextShelves x = Due.with(everySign() + everySign());
        for (int sign = 0; sign < 128; sign++) {
            due.is("last(0, " + sign + ")", x.last(0, sign), 128 + sign);
        }
    }

    @Says(promise = 19, value = "Returns the place; NONE.")
    static void lastOfNoSignIsNone(Due due) {
        TextShelves x = Due.with(everySign(), "");
        for (int sign : NO_SIGNS) {
            due.is("last(0, " + sign + ")", x.last(0, sign), TextShelves.NONE);
            due.is("last(1, " + sign + ")", x.last(1, sign), TextShelves.NONE);
            due.is("lastFrom(0, " + sign + ", MAX)", x.lastFrom(0, sign, MAX), TextShelves.NONE);
        }
    }

    @Says(promise = 19, value = "Returns the place; NONE.")
    static void lastAtTheFirstAndTheLastPlace(Due due) {
        TextShelves x = Due.with("A" + LONG_TEXT.substring(2) + "Z", "", "b".repeat(300));
        due.is("last() of the first sign", x.last(0, 'A'), 0);
        due.is("last() of the last sign", x.last(0, 'Z'), 299);
        due.is("last() in an empty text", x.last(1, 'A'), TextShelves.NONE);
        due.is("last(0) in an empty text", x.last(1, 0), TextShelves.NONE);
        due.is("last() of 300 of a sign", x.last(2, 'b'), 299);
        due.is("last() of a sign that a full text does not have", x.last(2, 'c'), TextShelves.NONE);
    }

    @Says(promise = 20, value = "`from`: any int; below 0 there is no place")
    static void lastFromBelow0IsNone(Due due) {
        TextShelves x = Due.with("abab", "");
        for (int from : new int[] {MIN, MIN + 1, -300, -2, -1}) {
            due.is("lastFrom(0, 'a', " + from + ")", x.lastFrom(0, 'a', from), TextShelves.NONE);
            due.is("lastFrom(1, 'a', " + from + ")", x.lastFrom(1, 'a', from), TextShelves.NONE);
        }
        due.is("lastFrom(0, 'a', 0)", x.lastFrom(0, 'a', 0), 0);
        due.is("lastFrom(0, 'b', 0)", x.lastFrom(0, 'b', 0), TextShelves.NONE);
    }

    @Says(promise = 20, value = "Returns the last place of a sign that is no more than a start.")
    static void lastFromIsAtTheStartAtTheMost(Due due) {
        TextShelves x = Due.with("abab");
        due.is("lastFrom(0, 'b', 2)", x.lastFrom(0, 'b', 2), 1);
        due.is("lastFrom(0, 'b', 1)", x.lastFrom(0, 'b', 1), 1);
        due.is("lastFrom(0, 'b', 3)", x.lastFrom(0, 'b', 3), 3);
        due.is("lastFrom(0, 'a', 1)", x.lastFrom(0, 'a', 1), 0);
    }

    @Says(promise = 20, value = "`from`: any int")
    static void lastFromTheLengthAndAboveIsTheLast(Due due) {
        TextShelves x = Due.with("abab", "a".repeat(300), "");
        for (int from : new int[] {3, 4, 5, 300, MAX - 1, MAX}) {
            due.is("lastFrom(0, 'b', " + from + ")", x.lastFrom(0, 'b', from), 3);
            due.is("lastFrom(2, 'b', " + from + ")", x.lastFrom(2, 'b', from), TextShelves.NONE);
        }
        due.is("lastFrom(1, 'a', 298)", x.lastFrom(1, 'a', 298), 298);
        due.is("lastFrom(1, 'a', 299)", x.lastFrom(1, 'a', 299), 299);
        due.is("lastFrom(1, 'a', 300)", x.lastFrom(1, 'a', 300), 299);
        due.is("lastFrom(1, 'a', MAX)", x.lastFrom(1, 'a', MAX), 299);
    }
}
