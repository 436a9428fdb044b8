/** Promises 12 to 20: what is asked of one text. */
public final class OneTextTest {
    private static final Due DUE = new Due("OneTextTest");
    private static final String EVERY_BLANK = "\t\n\u000b\f\r\u001c\u001d\u001e\u001f ";
    private static final int MIN = Integer.MIN_VALUE;
    private static final int MAX = Integer.MAX_VALUE;

    public static void main(String[] args) {
        lengthAndIsEmpty();
        isBlank();
        charAt();
        hash();
        first();
        firstFrom();
        last();
        lastFrom();
        asksChangeNothing();
        DUE.end();
    }

    private static void lengthAndIsEmpty() {
        TextShelves x = Due.with("abc", "\0", "", "a".repeat(300));
        DUE.is("length(0)", x.length(0), 3);
        DUE.is("length(1)", x.length(1), 1);
        DUE.is("length(2)", x.length(2), 0);
        DUE.is("length(3)", x.length(3), 300);
        DUE.is("length(-5)", x.length(-5), 300);
        DUE.is("length(MIN)", x.length(MIN), 3);
        DUE.is("length(MAX)", x.length(MAX), 0);
        DUE.no("isEmpty(0)", x.isEmpty(0));
        DUE.no("isEmpty(1)", x.isEmpty(1));
        DUE.yes("isEmpty(2)", x.isEmpty(2));
        DUE.no("isEmpty(-5)", x.isEmpty(-5));
        DUE.yes("isEmpty(-1)", x.isEmpty(-1));
    }

    private static void isBlank() {
        TextShelves x = Due.with("", EVERY_BLANK, EVERY_BLANK + "a", "a" + EVERY_BLANK, " \u001b ");
        DUE.yes("isBlank of an empty text", x.isBlank(0));
        DUE.yes("isBlank of all blanks", x.isBlank(9));
        DUE.no("isBlank with an end", x.isBlank(2));
        DUE.no("isBlank with a beginning", x.isBlank(3));
        DUE.no("isBlank with 27", x.isBlank(4));
        for (int sign = 0; sign < 128; sign++) {
            x.wipe(0);
            x.type(0, sign);
            boolean blank = EVERY_BLANK.indexOf(sign) >= 0;
            DUE.is("isBlank of " + sign, x.isBlank(0) ? 1 : 0, blank ? 1 : 0);
        }
    }

    private static void charAt() {
        TextShelves x = Due.with("ab\0\u007f");
        DUE.is("charAt(0, 0)", x.charAt(0, 0), 'a');
        DUE.is("charAt(8, 1)", x.charAt(8, 1), 'b');
        DUE.is("charAt(0, 2)", x.charAt(0, 2), 0);
        DUE.is("charAt(0, 3)", x.charAt(0, 3), 127);
        DUE.is("charAt(0, 4)", x.charAt(0, 4), TextShelves.BEYOND);
        DUE.is("charAt(0, -1)", x.charAt(0, -1), TextShelves.BEYOND);
        DUE.is("charAt(0, MIN)", x.charAt(0, MIN), TextShelves.BEYOND);
        DUE.is("charAt(0, MAX)", x.charAt(0, MAX), TextShelves.BEYOND);
        DUE.is("charAt(1, 0)", x.charAt(1, 0), TextShelves.BEYOND);
        x.wipe(0);
        DUE.is("charAt(0, 0) of a wiped text", x.charAt(0, 0), TextShelves.BEYOND);
    }

    private static void hash() {
        String[] texts = {"", "\0", "a", "ab", "ba", "polygenelubricants", "z".repeat(300)};
        TextShelves x = Due.with(texts);
        for (int i = 0; i < texts.length; i++) {
            DUE.is("hash(" + i + ")", x.hash(i), texts[i].hashCode());
        }
        DUE.is("hash of what wraps to MIN", x.hash(5), MIN);
    }

    private static void first() {
        TextShelves x = Due.with("abcabc\0");
        DUE.is("first a", x.first(0, 'a'), 0);
        DUE.is("first c", x.first(-8, 'c'), 2);
        DUE.is("first 0", x.first(0, 0), 6);
        DUE.is("first d", x.first(0, 'd'), -1);
        DUE.is("first -1", x.first(0, -1), -1);
        DUE.is("first a + 256", x.first(0, 'a' + 256), -1);
        DUE.is("first a + 65536", x.first(0, 'a' + 65536), -1);
        DUE.is("first MIN", x.first(0, MIN), -1);
        DUE.is("first of an empty text", x.first(1, 'a'), -1);
        DUE.is("first 0 of an empty text", x.first(1, 0), -1);
        DUE.is("first -1 of an empty text", x.first(1, -1), -1);
    }

    private static void firstFrom() {
        TextShelves x = Due.with("abcabc");
        DUE.is("firstFrom 0", x.firstFrom(0, 'a', 0), 0);
        DUE.is("firstFrom 1", x.firstFrom(0, 'a', 1), 3);
        DUE.is("firstFrom 3", x.firstFrom(0, 'a', 3), 3);
        DUE.is("firstFrom 4", x.firstFrom(0, 'a', 4), -1);
        DUE.is("firstFrom 5", x.firstFrom(0, 'c', 5), 5);
        DUE.is("firstFrom 6", x.firstFrom(0, 'c', 6), -1);
        DUE.is("firstFrom -1", x.firstFrom(0, 'a', -1), 0);
        DUE.is("firstFrom MIN", x.firstFrom(0, 'b', MIN), 1);
        DUE.is("firstFrom MAX", x.firstFrom(0, 'b', MAX), -1);
        DUE.is("firstFrom of no sign", x.firstFrom(0, -1, 6), -1);
        DUE.is("firstFrom of no sign", x.firstFrom(0, -1, 0), -1);
    }

    private static void last() {
        TextShelves x = Due.with("abcabcx", "b".repeat(300));
        DUE.is("last a", x.last(0, 'a'), 3);
        DUE.is("last x", x.last(8, 'x'), 6);
        DUE.is("last d", x.last(0, 'd'), -1);
        DUE.is("last -1", x.last(0, -1), -1);
        DUE.is("last a + 256", x.last(0, 'a' + 256), -1);
        DUE.is("last of a full text", x.last(1, 'b'), 299);
        DUE.is("last of an empty text", x.last(2, 'a'), -1);
        DUE.is("last 0 of an empty text", x.last(2, 0), -1);
    }

    private static void lastFrom() {
        TextShelves x = Due.with("abcabc");
        DUE.is("lastFrom 5", x.lastFrom(0, 'a', 5), 3);
        DUE.is("lastFrom 3", x.lastFrom(0, 'a', 3), 3);
        DUE.is("lastFrom 2", x.lastFrom(0, 'a', 2), 0);
        DUE.is("lastFrom 0", x.lastFrom(0, 'a', 0), 0);
        DUE.is("lastFrom 0", x.lastFrom(0, 'b', 0), -1);
        DUE.is("lastFrom -1", x.lastFrom(0, 'a', -1), -1);
        DUE.is("lastFrom MIN", x.lastFrom(0, 'a', MIN), -1);
        DUE.is("lastFrom 6", x.lastFrom(0, 'c', 6), 5);
        DUE.is("lastFrom MAX", x.lastFrom(0, 'c', MAX), 5);
        DUE.is("lastFrom of no sign", x.lastFrom(0, -1, MAX), -1);
    }

    private static void asksChangeNothing() {
        TextShelves x = Due.with(" a,b ");
        x.part(0, ',', -1);
        long before = x.digest();
        x.length(0);
        x.isEmpty(0);
        x.isBlank(0);
        x.charAt(0, 1);
        x.hash(0);
        x.first(0, 'b');
        x.firstFrom(0, 'b', 1);
        x.last(0, 'b');
        x.lastFrom(0, 'b', 4);
        DUE.is("digest() behind what is asked", x.digest(), before);
    }
}
