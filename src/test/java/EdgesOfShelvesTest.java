/** Promises 1 to 11: each sentence that names an edge, at that edge. */
public final class EdgesOfShelvesTest {
    private static final int MIN = Integer.MIN_VALUE;
    private static final int MAX = Integer.MAX_VALUE;
    private static final String LONG_TEXT = Due.letters(300);
    private static final int[] NO_SIGNS_BELOW = {-1, -2, 'a' - 128, 'a' - 256, 'a' - 65536, MIN + 'a', MIN + 1, MIN};
    private static final int[] NO_SIGNS_ABOVE = {128, 129, 255, 256, 'a' + 128, 'a' + 256, 'a' + 65536, MAX - 1, MAX};

    public static void main(String[] args) throws ReflectiveOperationException {
        Edges.run(EdgesOfShelvesTest.class);
    }

    // ---- a new object

    @Says(promise = 1, value = "All texts are empty")
    static void aNewObjectHasEmptyTexts(Due due) {
        TextShelves x = new TextShelves();
        for (int shelf = 0; shelf < 8; shelf++) {
            due.is("length(" + shelf + ")", x.length(shelf), 0);
            due.is("charAt(" + shelf + ", 0)", x.charAt(shelf, 0), TextShelves.BEYOND);
        }
    }

    @Says(promise = 1, value = "no pieces")
    static void aNewObjectHasNoPieces(Due due) {
        TextShelves x = new TextShelves();
        due.is("pieces()", x.pieces(), 0);
        due.is("piece(0, 0)", x.piece(0, 0), TextShelves.BEYOND);
    }

    @Says(promise = 1, value = "nothing is kept")
    static void aNewObjectHasNothingKept(Due due) {
        for (int image = 0; image < 2; image++) {
            TextShelves x = Due.with("a,b");
            x.part(0, ',', -1);
            due.is("back(" + image + ")", x.back(image), 0);
            due.is("back(" + image + "), then digest()", x.digest(), new TextShelves().digest());
        }
    }

    @Says(promise = 1, value = "All texts are empty; no pieces, nothing is kept.")
    static void aNewObjectKnowsNothingOfAnother(Due due) {
        TextShelves old = Due.with("a,b");
        old.part(0, ',', -1);
        old.keep(0);
        TextShelves x = new TextShelves();
        due.is("length(0)", x.length(0), 0);
        due.is("pieces()", x.pieces(), 0);
        due.is("back(0)", x.back(0), 0);
        due.is("length(0) of the old one", old.length(0), 3);
    }

    // ---- wipe

    @Says(promise = 2, value = "Makes the text of a shelf empty.")
    static void wipeLeavesNothingOfAFullText(Due due) {
        TextShelves x = Due.with(LONG_TEXT, "b");
        x.wipe(0);
        due.text("wipe(0)", x, 0, "");
        due.is("wipe(0), then charAt(0, 0)", x.charAt(0, 0), TextShelves.BEYOND);
        due.is("wipe(0), then find(0, 1)", x.find(0, 1), TextShelves.NONE);
        due.is("wipe(0), then type(0, 'z')", x.type(0, 'z'), 1);
        due.text("wipe(0), then type(0, 'z')", x, 0, "z");
        due.text("wipe(0)", x, 1, "b");
    }

    @Says(promise = 2, value = "Returns how many signs it had.")
    static void wipeReturnsFrom0To300(Due due) {
        TextShelves x = Due.with(LONG_TEXT, "b");
        due.is("wipe() of 300 signs", x.wipe(0), 300);
        due.is("wipe() of one sign", x.wipe(1), 1);
        due.is("wipe() of what was wiped", x.wipe(0), 0);
        due.is("wipe() of what was always empty", x.wipe(2), 0);
    }

    // ---- type

    @Says(promise = 3, value = "`sign`: 0 to 127")
    static void typeTakesTheSigns0And127(Due due) {
        TextShelves x = new TextShelves();
        due.is("type(0, 0)", x.type(0, 0), 1);
        due.is("type(0, 127)", x.type(0, 127), 2);
        due.is("type(0, 1)", x.type(0, 1), 3);
        due.is("type(0, 126)", x.type(0, 126), 4);
        due.text("type()", x, 0, "\0\u007f\u0001\u007e");
    }

    @Says(promise = 3, value = "`sign`: 0 to 127")
    static void typeRefusesSignsBelow0(Due due) {
        for (int sign : NO_SIGNS_BELOW) {
            new Twins(due, "ab").refuse("type(0, " + sign + ")", TextShelves.UNFIT, x -> x.type(0, sign));
        }
    }

    @Says(promise = 3, value = "`sign`: 0 to 127")
    static void typeRefusesSignsAbove127(Due due) {
        for (int sign : NO_SIGNS_ABOVE) {
            new Twins(due, "ab").refuse("type(0, " + sign + ")", TextShelves.UNFIT, x -> x.type(0, sign));
        }
    }

    @Says(promise = 3, value = "Returns how many signs it has then; UNFIT; FULL.")
    static void typePutsThe300thSign(Due due) {
        TextShelves x = Due.with(LONG_TEXT.substring(0, 298));
        due.is("type() behind 298 signs", x.type(0, 'Y'), 299);
        due.is("type() behind 299 signs", x.type(0, 'Z'), 300);
        due.text("type()", x, 0, LONG_TEXT.substring(0, 298) + "YZ");
    }

    @Says(promise = 3, value = "Returns how many signs it has then; UNFIT; FULL.")
    static void typeRefusesThe301stSign(Due due) {
        Twins twins = new Twins(due, LONG_TEXT);
        twins.refuse("type(0, 'a')", TextShelves.FULL, x -> x.type(0, 'a'));
        twins.refuse("type(0, 0)", TextShelves.FULL, x -> x.type(0, 0));
        twins.refuse("type(0, 127)", TextShelves.FULL, x -> x.type(0, 127));
    }

    @Says(promise = 3, value = "Returns how many signs it has then; UNFIT; FULL.")
    static void typeOfNoSignOnAFullTextIsUnfit(Due due) {
        Twins twins = new Twins(due, LONG_TEXT);
        twins.refuse("type(0, -1)", TextShelves.UNFIT, x -> x.type(0, -1));
        twins.refuse("type(0, 128)", TextShelves.UNFIT, x -> x.type(0, 128));
    }

    // ---- feed

    @Says(promise = 4, value = "`n`: 1 to 8")
    static void feedTakes1To8Signs(Due due) {
        for (int n = 1; n <= 8; n++) {
            TextShelves x = Due.with("ab");
            due.is("feed() of " + n, x.feed(0, Due.packed("12345678"), n), 2 + n);
            due.text("feed() of " + n, x, 0, "ab" + "12345678".substring(0, n));
        }
    }

    @Says(promise = 4, value = "`n`: 1 to 8")
    static void feedRefusesNBelow1(Due due) {
        for (int n : new int[] {0, -1, -7, -8, -9, -300, MIN + 1, MIN}) {
            new Twins(due, "ab").refuse("feed(0, 0, " + n + ")", TextShelves.UNFIT, x -> x.feed(0, 0, n));
        }
    }

    @Says(promise = 4, value = "`n`: 1 to 8")
    static void feedRefusesNAbove8(Due due) {
        for (int n : new int[] {9, 10, 16, 64, 257, 65537, MAX - 1, MAX}) {
            new Twins(due, "ab").refuse("feed(0, 0, " + n + ")", TextShelves.UNFIT, x -> x.feed(0, 0, n));
        }
    }

    @Says(promise = 4, value = "the lowest n bytes of it, the lowest one first, each 0 to 127")
    static void feedTakes0And127AsEachByte(Due due) {
        for (int place = 0; place < 8; place++) {
            TextShelves x = new TextShelves();
            due.is("feed() of 127 as byte " + place, x.feed(0, 127L << 8 * place, 8), 8);
            for (int i = 0; i < 8; i++) {
                due.is("feed() of 127 as byte " + place + ", then charAt(0, " + i + ")",
                    x.charAt(0, i), i == place ? 127 : 0);
            }
        }
    }

    @Says(promise = 4, value = "UNFIT: also one of these bytes")
    static void feedRefuses128To255AsEachByte(Due due) {
        for (int n = 1; n <= 8; n++) {
            for (int place = 0; place < n; place++) {
                for (long sign : new long[] {128, 129, 254, 255}) {
                    long signs = Due.packed("abcdefgh") & ~(255L << 8 * place) | sign << 8 * place;
                    int told = n;
                    new Twins(due, "xy").refuse("feed() of " + n + " with " + sign + " as byte " + place,
                        TextShelves.UNFIT, x -> x.feed(0, signs, told));
                }
            }
        }
    }

    @Says(promise = 4, value = "the lowest n bytes of it, the lowest one first, each 0 to 127")
    static void feedLooksAtNoByteAboveTheLowestOnes(Due due) {
        for (int n = 1; n < 8; n++) {
            TextShelves x = new TextShelves();
            long signs = Due.packed("abcdefgh".substring(0, n)) | -1L << 8 * n;
            due.is("feed() of " + n + " below bytes of 255", x.feed(0, signs, n), n);
            due.text("feed() of " + n + " below bytes of 255", x, 0, "abcdefgh".substring(0, n));
        }
    }

    @Says(promise = 4, value = "the lowest n bytes of it, the lowest one first, each 0 to 127")
    static void feedOfTheLeastAndTheGreatestLong(Due due) {
        TextShelves x = new TextShelves();
        due.is("feed() of seven of the least long", x.feed(0, Long.MIN_VALUE, 7), 7);
        due.text("feed() of seven of the least long", x, 0, "\0".repeat(7));
        due.is("feed() of eight of 0", x.feed(0, 0, 8), 15);
        due.is("feed() of eight times 127", x.feed(1, 0x7f7f7f7f7f7f7f7fL, 8), 8);
        due.text("feed() of eight times 127", x, 1, "\u007f".repeat(8));
        Twins twins = new Twins(due, "ab");
        twins.refuse("feed() of eight of the least long", TextShelves.UNFIT, y -> y.feed(0, Long.MIN_VALUE, 8));
        twins.refuse("feed() of one of the greatest long", TextShelves.UNFIT, y -> y.feed(0, Long.MAX_VALUE, 1));
        twins.refuse("feed() of one of -1", TextShelves.UNFIT, y -> y.feed(0, -1, 1));
        twins.refuse("feed() of eight of -1", TextShelves.UNFIT, y -> y.feed(0, -1, 8));
    }

    @Says(promise = 4, value = "Returns how many signs it has then")
    static void feedFillsATextUpTo300(Due due) {
        for (int n = 1; n <= 8; n++) {
            TextShelves x = Due.with(LONG_TEXT.substring(0, 300 - n));
            String want = LONG_TEXT.substring(0, 300 - n) + "12345678".substring(0, n);
            due.is("feed() of " + n + " up to 300", x.feed(0, Due.packed("12345678"), n), 300);
            due.text("feed() of " + n + " up to 300", x, 0, want);
        }
    }

    @Says(promise = 4, value = "FULL: none is put then")
    static void feedPutsNoneWhereNotAllHaveRoom(Due due) {
        for (int n = 1; n <= 8; n++) {
            int told = n;
            Twins one = new Twins(due, LONG_TEXT.substring(0, 301 - n));
            one.refuse("feed() of " + n + " up to 301", TextShelves.FULL, x -> x.feed(0, 0, told));
            Twins all = new Twins(due, LONG_TEXT);
            all.refuse("feed() of " + n + " behind 300", TextShelves.FULL, x -> x.feed(0, 0, told));
        }
    }

    @Says(promise = 4, value = "UNFIT: also one of these bytes; FULL: none is put then")
    static void feedOfWhatIsUnfitOnAFullTextIsUnfit(Due due) {
        Twins twins = new Twins(due, LONG_TEXT.substring(0, 299));
        twins.refuse("feed() of no sign up to 301", TextShelves.UNFIT, x -> x.feed(0, 0x8061L, 2));
        twins.refuse("feed() of nine up to 308", TextShelves.UNFIT, x -> x.feed(0, 0, 9));
        twins.refuse("feed() of MAX", TextShelves.UNFIT, x -> x.feed(0, 0, MAX));
    }

    // ---- copy and swap

    @Says(promise = 5, value = "Lays the text of a shelf on another one, too.")
    static void copyOfAnEmptyAndOfAFullText(Due due) {
        TextShelves x = Due.with(LONG_TEXT, "");
        due.is("copy() of 300 signs onto none", x.copy(0, 2), 300);
        due.text("copy() of 300 signs onto none", x, 2, LONG_TEXT);
        due.text("copy() of 300 signs onto none", x, 0, LONG_TEXT);
        due.is("copy() of none onto 300 signs", x.copy(1, 2), 0);
        due.text("copy() of none onto 300 signs", x, 2, "");
        due.is("copy() of none onto none", x.copy(1, 3), 0);
    }

    @Says(promise = 5, value = "Lays the text of a shelf on another one, too.")
    static void copyOntoTheSameShelf(Due due) {
        TextShelves x = Due.with(LONG_TEXT, "ab", "");
        due.is("copy(0, 0)", x.copy(0, 0), 300);
        due.text("copy(0, 0)", x, 0, LONG_TEXT);
        due.is("copy(1, 1)", x.copy(1, 1), 2);
        due.text("copy(1, 1)", x, 1, "ab");
        due.is("copy(2, 2)", x.copy(2, 2), 0);
    }

    @Says(promise = 5, value = "Lays the text of a shelf on another one, too.")
    static void aCopyHasNothingToDoWithItsSource(Due due) {
        TextShelves x = Due.with("ab");
        x.copy(0, 1);
        x.type(0, 'c');
        due.text("type() on the source", x, 1, "ab");
        x.wipe(1);
        due.text("wipe() of the copy", x, 0, "abc");
    }

    @Says(promise = 6, value = "Lets the texts of two shelves change places.")
    static void swapOfAnEmptyAndAFullText(Due due) {
        TextShelves x = Due.with(LONG_TEXT, "");
        due.is("swap(0, 1)", x.swap(0, 1), 0);
        due.text("swap(0, 1)", x, 0, "");
        due.text("swap(0, 1)", x, 1, LONG_TEXT);
    }

    @Says(promise = 6, value = "Returns how many signs that of the first one has then.")
    static void swapReturnsTheSignsThatTheFirstOneHasThen(Due due) {
        TextShelves x = Due.with(LONG_TEXT, "", "abc");
        due.is("swap(0, 1)", x.swap(0, 1), 0);
        due.is("swap(0, 1) again", x.swap(0, 1), 300);
        due.is("swap(0, 2)", x.swap(0, 2), 3);
        due.is("swap(3, 4) of empty ones", x.swap(3, 4), 0);
    }

    @Says(promise = 6, value = "Lets the texts of two shelves change places.")
    static void swapOfAShelfWithItself(Due due) {
        TextShelves x = Due.with("abc", "d");
        due.is("swap(0, 0)", x.swap(0, 0), 3);
        due.is("swap(0, -8)", x.swap(0, -8), 3);
        due.text("swap(0, 0)", x, 0, "abc");
        due.text("swap(0, 0)", x, 1, "d");
    }

    // ---- concat

    @Says(promise = 7, value = "Returns how many signs; FULL.")
    static void concatLaysUpTo300Signs(Due due) {
        for (int n : new int[] {0, 1, 2, 150, 298, 299, 300}) {
            TextShelves x = Due.with(LONG_TEXT.substring(0, n), LONG_TEXT.substring(n));
            due.is("concat() of " + n + " and " + (300 - n), x.concat(0, 1, 2), 300);
            due.text("concat() of " + n + " and " + (300 - n), x, 2, LONG_TEXT);
        }
    }

    @Says(promise = 7, value = "Returns how many signs; FULL.")
    static void concatRefuses301Signs(Due due) {
        for (int n : new int[] {1, 2, 150, 151, 299, 300}) {
            Twins twins = new Twins(due, LONG_TEXT.substring(0, n), LONG_TEXT.substring(n - 1), "old");
            twins.refuse("concat() of " + n + " and " + (301 - n), TextShelves.FULL, x -> x.concat(0, 1, 2));
        }
    }

    @Says(promise = 7, value = "Returns how many signs; FULL.")
    static void concatRefuses600Signs(Due due) {
        Twins twins = new Twins(due, LONG_TEXT, LONG_TEXT, "old");
        twins.refuse("concat(0, 1, 2)", TextShelves.FULL, x -> x.concat(0, 1, 2));
        twins.refuse("concat(0, 0, 0)", TextShelves.FULL, x -> x.concat(0, 0, 0));
    }

    @Says(promise = 7, value = "Lays the text of a shelf, and behind it that of another one.")
    static void concatWithEmptyTexts(Due due) {
        TextShelves x = Due.with("ab", "", "", "old");
        due.is("concat() of one and none", x.concat(0, 1, 3), 2);
        due.text("concat() of one and none", x, 3, "ab");
        due.is("concat() of none and one", x.concat(1, 0, 3), 2);
        due.text("concat() of none and one", x, 3, "ab");
        due.is("concat() of none and none", x.concat(1, 2, 3), 0);
        due.text("concat() of none and none", x, 3, "");
    }

    @Says(promise = 7, value = "Lays the text of a shelf, and behind it that of another one.")
    static void concatOfAShelfWithItself(Due due) {
        TextShelves x = Due.with(LONG_TEXT.substring(0, 150));
        due.is("concat(0, 0, 0) of 150 signs", x.concat(0, 0, 0), 300);
        due.text("concat(0, 0, 0) of 150 signs", x, 0, LONG_TEXT.substring(0, 150).repeat(2));
        Twins twins = new Twins(due, LONG_TEXT.substring(0, 151));
        twins.refuse("concat(0, 0, 0) of 151 signs", TextShelves.FULL, y -> y.concat(0, 0, 0));
    }

    // ---- substring

    private static void lays(Due due, String text, int from, int until) {
        TextShelves x = Due.with(text, "old");
        String call = "substring(0, " + from + ", " + until + ", 1) of " + text.length() + " signs";
        due.is(call, x.substring(0, from, until, 1), until - from);
        due.text(call, x, 1, text.substring(from, until));
    }

    private static void isBeyond(Due due, String text, int from, int until) {
        Twins twins = new Twins(due, text, "old");
        String call = "substring(0, " + from + ", " + until + ", ..) of " + text.length() + " signs";
        twins.refuse(call, TextShelves.BEYOND, x -> x.substring(0, from, until, 1));
        twins.refuse(call, TextShelves.BEYOND, x -> x.substring(0, from, until, 0));
    }

    @Says(promise = 8, value = "BEYOND: from is below 0")
    static void substringFrom0ButNotBelow(Due due) {
        lays(due, "abc", 0, 3);
        lays(due, "abc", 0, 0);
        isBeyond(due, "abc", -1, 3);
        isBeyond(due, "abc", -1, -1);
        isBeyond(due, "abc", -1, 0);
        isBeyond(due, "abc", MIN, 3);
        isBeyond(due, "abc", MIN, MIN);
    }

    @Says(promise = 8, value = "until is above the length")
    static void substringUntilTheLengthButNotAbove(Due due) {
        lays(due, "abc", 1, 3);
        lays(due, "abc", 3, 3);
        isBeyond(due, "abc", 1, 4);
        isBeyond(due, "abc", 3, 4);
        isBeyond(due, "abc", 4, 4);
        isBeyond(due, "abc", 0, MAX);
        isBeyond(due, "abc", MAX, MAX);
    }

    @Says(promise = 8, value = "from is above until")
    static void substringFromUntilButNotAbove(Due due) {
        lays(due, "abc", 1, 1);
        lays(due, "abc", 1, 2);
        isBeyond(due, "abc", 2, 1);
        isBeyond(due, "abc", 1, 0);
        isBeyond(due, "abc", 3, 0);
        isBeyond(due, "abc", 0, -1);
        isBeyond(due, "abc", 0, MIN);
        isBeyond(due, "abc", MAX, MIN);
        isBeyond(due, "abc", MAX, 0);
        isBeyond(due, "abc", MIN, MAX);
    }

    @Says(promise = 8, value = "BEYOND: from is below 0, until is above the length, or from is above until.")
    static void substringOfAnEmptyText(Due due) {
        lays(due, "", 0, 0);
        isBeyond(due, "", 0, 1);
        isBeyond(due, "", 1, 1);
        isBeyond(due, "", -1, 0);
        isBeyond(due, "", 1, 0);
    }

    @Says(promise = 8, value = "BEYOND: from is below 0, until is above the length, or from is above until.")
    static void substringOfAFullText(Due due) {
        lays(due, LONG_TEXT, 0, 300);
        lays(due, LONG_TEXT, 299, 300);
        lays(due, LONG_TEXT, 300, 300);
        lays(due, LONG_TEXT, 0, 1);
        isBeyond(due, LONG_TEXT, 0, 301);
        isBeyond(due, LONG_TEXT, 300, 301);
        isBeyond(due, LONG_TEXT, 301, 301);
        isBeyond(due, LONG_TEXT, 300, 299);
    }

    // ---- tail

    private static void laysTail(Due due, String text, int from) {
        TextShelves x = Due.with(text, "old");
        String call = "tail(0, " + from + ", 1) of " + text.length() + " signs";
        due.is(call, x.tail(0, from, 1), text.length() - from);
        due.text(call, x, 1, text.substring(from));
    }

    private static void tailIsBeyond(Due due, String text, int from) {
        Twins twins = new Twins(due, text, "old");
        String call = "tail(0, " + from + ", ..) of " + text.length() + " signs";
        twins.refuse(call, TextShelves.BEYOND, x -> x.tail(0, from, 1));
        twins.refuse(call, TextShelves.BEYOND, x -> x.tail(0, from, 0));
    }

    @Says(promise = 9, value = "BEYOND: from is below 0")
    static void tailFrom0ButNotBelow(Due due) {
        laysTail(due, "abc", 0);
        laysTail(due, "", 0);
        laysTail(due, LONG_TEXT, 0);
        tailIsBeyond(due, "abc", -1);
        tailIsBeyond(due, "", -1);
        tailIsBeyond(due, LONG_TEXT, -1);
        tailIsBeyond(due, "abc", MIN);
    }

    @Says(promise = 9, value = "or above the length")
    static void tailFromTheLengthButNotAbove(Due due) {
        laysTail(due, "abc", 2);
        laysTail(due, "abc", 3);
        laysTail(due, LONG_TEXT, 299);
        laysTail(due, LONG_TEXT, 300);
        tailIsBeyond(due, "abc", 4);
        tailIsBeyond(due, "", 1);
        tailIsBeyond(due, LONG_TEXT, 301);
        tailIsBeyond(due, "abc", MAX);
    }

    // ---- number and big

    private static void laysNumber(Due due, int value) {
        TextShelves x = Due.with("an old text of many signs");
        due.is("number(" + value + ", 0)", x.number(value, 0), Integer.toString(value).length());
        due.text("number(" + value + ", 0)", x, 0, Integer.toString(value));
    }

    private static void laysBig(Due due, long value) {
        TextShelves x = Due.with("an old text of many signs");
        due.is("big(" + value + ", 0)", x.big(value, 0), Long.toString(value).length());
        due.text("big(" + value + ", 0)", x, 0, Long.toString(value));
    }

    @Says(promise = 10, value = "Lays the digits of a number")
    static void numberOfTheGreatestInt(Due due) {
        laysNumber(due, MAX);
        laysNumber(due, MAX - 1);
    }

    @Says(promise = 10, value = "with - ahead of them, if it is below 0")
    static void numberOfTheLeastInt(Due due) {
        laysNumber(due, MIN);
        laysNumber(due, MIN + 1);
    }

    @Says(promise = 10, value = "with - ahead of them, if it is below 0")
    static void numberHasAMinusBelow0ButNotAt0(Due due) {
        laysNumber(due, -1);
        laysNumber(due, 0);
        laysNumber(due, 1);
    }

    @Says(promise = 10, value = "Lays the digits of a number")
    static void numberGrowsByADigitAtEachPowerOf10(Due due) {
        for (int power = 1; power <= 1000000000 && power > 0; power *= 10) {
            for (int value : new int[] {power - 1, power, power + 1}) {
                laysNumber(due, value);
                laysNumber(due, -value);
            }
        }
    }

    @Says(promise = 10, value = "Lays the digits of a number")
    static void numberLeavesNothingOfTheOneBefore(Due due) {
        TextShelves x = new TextShelves();
        for (int value : new int[] {MIN, 0, MAX, -1, 10, 9}) {
            due.is("number(" + value + ", 0)", x.number(value, 0), Integer.toString(value).length());
            due.text("number(" + value + ", 0)", x, 0, Integer.toString(value));
        }
    }

    @Says(promise = 11, value = "Lays the digits of a number")
    static void bigOfTheGreatestLong(Due due) {
        laysBig(due, Long.MAX_VALUE);
        laysBig(due, Long.MAX_VALUE - 1);
    }

    @Says(promise = 11, value = "with - ahead of them, if it is below 0")
    static void bigOfTheLeastLong(Due due) {
        laysBig(due, Long.MIN_VALUE);
        laysBig(due, Long.MIN_VALUE + 1);
    }

    @Says(promise = 11, value = "with - ahead of them, if it is below 0")
    static void bigHasAMinusBelow0ButNotAt0(Due due) {
        laysBig(due, -1);
        laysBig(due, 0);
        laysBig(due, 1);
    }

    @Says(promise = 11, value = "Lays the digits of a number")
    static void bigGrowsByADigitAtEachPowerOf10(Due due) {
        for (long power = 1; power > 0 && power <= 1000000000000000000L; power *= 10) {
            for (long value : new long[] {power - 1, power, power + 1}) {
                laysBig(due, value);
                laysBig(due, -value);
            }
        }
    }

    @Says(promise = 11, value = "Lays the digits of a number")
    static void bigLeavesNothingOfTheOneBefore(Due due) {
        TextShelves x = new TextShelves();
        for (long value : new long[] {Long.MIN_VALUE, 0, Long.MAX_VALUE, -1, 10, 9}) {
            due.is("big(" + value + ", 0)", x.big(value, 0), Long.toString(value).length());
            due.text("big(" + value + ", 0)", x, 0, Long.toString(value));
        }
    }

    @Says(promise = 11, value = "Lays the digits of a number")
    static void bigIsNotCutToAnInt(Due due) {
        for (long value : new long[] {MAX, MAX + 1L, MIN, MIN - 1L, 1L << 32, -(1L << 32), (1L << 32) + 5}) {
            laysBig(due, value);
        }
    }
}
