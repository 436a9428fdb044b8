/** Promises 1 to 11: a new object and the calls that lay texts on shelves. */
public final class ShelvesTest {
    private static final Due DUE = new Due("ShelvesTest");
    private static final String FULL_TEXT = "0123456789".repeat(30);

    public static void main(String[] args) {
        constants();
        newObject();
        wipe();
        type();
        feed();
        copy();
        swap();
        concat();
        substring();
        tail();
        number();
        big();
        DUE.end();
    }

    private static void constants() {
        DUE.is("NONE", TextShelves.NONE, -1);
        DUE.is("UNFIT", TextShelves.UNFIT, -1000001);
        DUE.is("BEYOND", TextShelves.BEYOND, -1000002);
        DUE.is("BAD", TextShelves.BAD, -1000003);
        DUE.is("FULL", TextShelves.FULL, -1000004);
    }

    private static void newObject() {
        TextShelves x = new TextShelves();
        for (int i = 0; i < 8; i++) {
            DUE.is("new, length(" + i + ")", x.length(i), 0);
        }
        DUE.is("new, pieces()", x.pieces(), 0);
        DUE.is("new, digest()", x.digest(), 14499147636497L);
        x.type(3, 'a');
        x.part(3, ',', 0);
        DUE.is("new, back(0)", x.back(0), 0);
        DUE.is("new, back(0), digest()", x.digest(), 14499147636497L);
        DUE.is("new, back(1)", x.back(1), 0);
        TextShelves other = new TextShelves();
        other.type(0, 'a');
        DUE.is("another object's text", x.length(0), 0);
    }

    private static void wipe() {
        TextShelves x = Due.with("abc", "de");
        DUE.is("wipe(0)", x.wipe(0), 3);
        DUE.text("wipe(0)", x, 0, "");
        DUE.text("wipe(0)", x, 1, "de");
        DUE.is("wipe(0) again", x.wipe(0), 0);
        DUE.is("wipe(-7)", x.wipe(-7), 2);
        DUE.text("wipe(-7)", x, 1, "");
    }

    private static void type() {
        TextShelves x = Due.with("", FULL_TEXT);
        DUE.is("type(0, 0)", x.type(0, 0), 1);
        DUE.is("type(8, 127)", x.type(8, 127), 2);
        DUE.is("type(-8, 65)", x.type(-8, 65), 3);
        DUE.text("type", x, 0, "\0\u007fA");
        DUE.is("type(MAX, 55)", x.type(Integer.MAX_VALUE, 55), 1);
        DUE.is("type(MIN, 55)", x.type(Integer.MIN_VALUE, 55), 4);
        DUE.text("type(MAX, 55)", x, 7, "7");
        long before = x.digest();
        DUE.is("type(0, 128)", x.type(0, 128), TextShelves.UNFIT);
        DUE.is("type(0, -1)", x.type(0, -1), TextShelves.UNFIT);
        DUE.is("type(0, 65 + 256)", x.type(0, 65 + 256), TextShelves.UNFIT);
        DUE.is("type(0, MIN)", x.type(0, Integer.MIN_VALUE), TextShelves.UNFIT);
        DUE.is("type on a full text", x.type(1, 'a'), TextShelves.FULL);
        DUE.is("type no sign on a full text", x.type(1, 128), TextShelves.UNFIT);
        DUE.is("refused type()", x.digest(), before);
        x.substring(1, 0, 299, 1);
        DUE.is("type the 300th", x.type(1, 'z'), 300);
        DUE.is("type the 300th", x.charAt(1, 299), 'z');
        DUE.is("type the 301st", x.type(1, 'z'), TextShelves.FULL);
    }

    private static void feed() {
        TextShelves x = new TextShelves();
        DUE.is("feed one", x.feed(0, 'a', 1), 1);
        DUE.is("feed eight", x.feed(0, Due.packed("bcdefghi"), 8), 9);
        DUE.text("feed", x, 0, "abcdefghi");
        DUE.is("feed two of eight", x.feed(-8, Due.packed("jklmnopq"), 2), 11);
        DUE.text("feed two of eight", x, 0, "abcdefghijk");
        DUE.is("feed unlike bytes behind", x.feed(1, 0xffffffffffff4241L, 2), 2);
        DUE.text("feed unlike bytes behind", x, 1, "AB");
        DUE.is("feed 127 and 0", x.feed(2, 0x007fL, 2), 2);
        DUE.text("feed 127 and 0", x, 2, "\u007f\0");
        long before = x.digest();
        DUE.is("feed none", x.feed(0, 'a', 0), TextShelves.UNFIT);
        DUE.is("feed nine", x.feed(0, 'a', 9), TextShelves.UNFIT);
        DUE.is("feed -1", x.feed(0, 'a', -1), TextShelves.UNFIT);
        DUE.is("feed MIN", x.feed(0, 'a', Integer.MIN_VALUE), TextShelves.UNFIT);
        DUE.is("feed MAX", x.feed(0, 'a', Integer.MAX_VALUE), TextShelves.UNFIT);
        DUE.is("feed 128", x.feed(0, 128, 1), TextShelves.UNFIT);
        DUE.is("feed -1 as the eighth", x.feed(0, 0xff41414141414141L, 8), TextShelves.UNFIT);
        DUE.is("feed 128 as the second", x.feed(0, 0x418041L, 3), TextShelves.UNFIT);
        DUE.is("refused feed()", x.digest(), before);
        feedFull();
    }

    private static void feedFull() {
        TextShelves x = Due.with(FULL_TEXT.substring(0, 295));
        long before = x.digest();
        DUE.is("feed up to 301", x.feed(0, Due.packed("abcdef"), 6), TextShelves.FULL);
        DUE.is("feed up to 303", x.feed(0, Due.packed("abcdefgh"), 8), TextShelves.FULL);
        DUE.is("feed no sign up to 301", x.feed(0, 128, 6), TextShelves.UNFIT);
        DUE.is("refused feed() on many", x.digest(), before);
        DUE.is("feed up to 300", x.feed(0, Due.packed("abcde"), 5), 300);
        DUE.is("feed up to 300", x.hash(0), (FULL_TEXT.substring(0, 295) + "abcde").hashCode());
        DUE.is("feed up to 301 from 300", x.feed(0, 'a', 1), TextShelves.FULL);
    }

    private static void copy() {
        TextShelves x = Due.with("abc", "de");
        DUE.is("copy(0, 1)", x.copy(0, 1), 3);
        DUE.text("copy(0, 1)", x, 1, "abc");
        DUE.text("copy(0, 1)", x, 0, "abc");
        x.type(1, 'd');
        DUE.text("type behind the copy", x, 0, "abc");
        DUE.is("copy(1, 1)", x.copy(1, 1), 4);
        DUE.text("copy(1, 1)", x, 1, "abcd");
        DUE.is("copy(-6, 9) of an empty one", x.copy(-6, 9), 0);
        DUE.text("copy(-6, 9)", x, 1, "");
    }

    private static void swap() {
        TextShelves x = Due.with("abc", "de");
        DUE.is("swap(0, 1)", x.swap(0, 1), 2);
        DUE.text("swap(0, 1)", x, 0, "de");
        DUE.text("swap(0, 1)", x, 1, "abc");
        DUE.is("swap(1, 9)", x.swap(1, 9), 3);
        DUE.text("swap(1, 9)", x, 1, "abc");
        DUE.is("swap(-1, 0)", x.swap(-1, 0), 2);
        DUE.text("swap(-1, 0)", x, 7, "de");
        DUE.text("swap(-1, 0)", x, 0, "");
        x.type(7, 'f');
        DUE.text("type behind a swap", x, 7, "def");
        DUE.text("type behind a swap", x, 0, "");
    }

    private static void concat() {
        TextShelves x = Due.with("abc", "de", FULL_TEXT, FULL_TEXT.substring(3));
        DUE.is("concat(0, 1, 4)", x.concat(0, 1, 4), 5);
        DUE.text("concat(0, 1, 4)", x, 4, "abcde");
        DUE.is("concat(0, 1, 1)", x.concat(0, 1, 1), 5);
        DUE.text("concat(0, 1, 1)", x, 1, "abcde");
        DUE.is("concat(0, 8, 0)", x.concat(0, 8, 0), 6);
        DUE.text("concat(0, 8, 0)", x, 0, "abcabc");
        long before = x.digest();
        DUE.is("concat up to 303", x.concat(0, 3, 0), TextShelves.FULL);
        DUE.is("concat up to 600", x.concat(2, 2, 0), TextShelves.FULL);
        DUE.is("refused concat()", x.digest(), before);
        DUE.is("concat full and empty", x.concat(2, 7, 5), 300);
        DUE.text("concat full and empty", x, 5, FULL_TEXT);
        x.substring(0, 0, 3, 0);
        DUE.is("concat up to 300", x.concat(0, 3, 3), 300);
        DUE.text("concat up to 300", x, 3, "abc" + FULL_TEXT.substring(3));
        x.type(0, 'd');
        x.tail(3, 3, 3);
        before = x.digest();
        DUE.is("concat up to 301", x.concat(0, 3, 3), TextShelves.FULL);
        DUE.is("refused concat() up to 301", x.digest(), before);
    }

    private static void substring() {
        TextShelves x = Due.with("abcdef", "zz");
        DUE.is("substring(0, 1, 4, 1)", x.substring(0, 1, 4, 1), 3);
        DUE.text("substring(0, 1, 4, 1)", x, 1, "bcd");
        DUE.text("substring(0, 1, 4, 1)", x, 0, "abcdef");
        DUE.is("substring(0, 0, 6, 2)", x.substring(0, 0, 6, 2), 6);
        DUE.text("substring(0, 0, 6, 2)", x, 2, "abcdef");
        DUE.is("substring(0, 6, 6, 2)", x.substring(0, 6, 6, 2), 0);
        DUE.text("substring(0, 6, 6, 2)", x, 2, "");
        DUE.is("substring(0, 2, 2, 2)", x.substring(0, 2, 2, 2), 0);
        long before = x.digest();
        DUE.is("from -1", x.substring(0, -1, 3, 1), TextShelves.BEYOND);
        DUE.is("until 7", x.substring(0, 0, 7, 1), TextShelves.BEYOND);
        DUE.is("from above until", x.substring(0, 3, 2, 1), TextShelves.BEYOND);
        DUE.is("from 7, until 7", x.substring(0, 7, 7, 1), TextShelves.BEYOND);
        DUE.is("until -1", x.substring(0, 0, -1, 1), TextShelves.BEYOND);
        DUE.is("MIN to MAX", x.substring(0, Integer.MIN_VALUE, Integer.MAX_VALUE, 1), TextShelves.BEYOND);
        DUE.is("MAX to MIN", x.substring(0, Integer.MAX_VALUE, Integer.MIN_VALUE, 1), TextShelves.BEYOND);
        DUE.is("refused substring()", x.digest(), before);
        DUE.is("substring(0, 2, 5, 0)", x.substring(0, 2, 5, 0), 3);
        DUE.text("substring(0, 2, 5, 0)", x, 0, "cde");
    }

    private static void tail() {
        TextShelves x = Due.with("abcdef", "zz");
        DUE.is("tail(0, 4, 1)", x.tail(0, 4, 1), 2);
        DUE.text("tail(0, 4, 1)", x, 1, "ef");
        DUE.is("tail(0, 0, 2)", x.tail(0, 0, 2), 6);
        DUE.text("tail(0, 0, 2)", x, 2, "abcdef");
        DUE.is("tail(0, 6, 2)", x.tail(0, 6, 2), 0);
        DUE.text("tail(0, 6, 2)", x, 2, "");
        long before = x.digest();
        DUE.is("tail from 7", x.tail(0, 7, 1), TextShelves.BEYOND);
        DUE.is("tail from -1", x.tail(0, -1, 1), TextShelves.BEYOND);
        DUE.is("tail from MIN", x.tail(0, Integer.MIN_VALUE, 1), TextShelves.BEYOND);
        DUE.is("tail from MAX", x.tail(0, Integer.MAX_VALUE, 1), TextShelves.BEYOND);
        DUE.is("refused tail()", x.digest(), before);
        DUE.is("tail(0, 1, 0)", x.tail(0, 1, 0), 5);
        DUE.text("tail(0, 1, 0)", x, 0, "bcdef");
    }

    private static void number() {
        int[] values = {0, 7, -7, 10, -10, 99, 100, 101, 1234567890, -1000000000,
            Integer.MAX_VALUE, Integer.MIN_VALUE, Integer.MIN_VALUE + 1};
        TextShelves x = Due.with("old");
        for (int value : values) {
            String want = Integer.toString(value);
            DUE.is("number(" + value + ", 8)", x.number(value, 8), want.length());
            DUE.text("number(" + value + ", 8)", x, 0, want);
        }
    }

    private static void big() {
        long[] values = {0, 5, -5, 10, -10, 4294967296L, -4294967296L, 1000000000000000000L,
            999999999999999999L, Long.MAX_VALUE, Long.MIN_VALUE, Long.MIN_VALUE + 1};
        TextShelves x = Due.with("old");
        for (long value : values) {
            String want = Long.toString(value);
            DUE.is("big(" + value + ", -8)", x.big(value, -8), want.length());
            DUE.text("big(" + value + ", -8)", x, 0, want);
        }
    }
}
