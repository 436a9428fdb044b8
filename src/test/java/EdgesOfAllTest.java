/** Promises 45 to 51: each sentence that names an edge, at that edge. */
public final class EdgesOfAllTest {
    private static final int MIN = Integer.MIN_VALUE;
    private static final int MAX = Integer.MAX_VALUE;
    private static final String LONG_TEXT = Due.letters(300);
    private static final String COMMAS = ",".repeat(300);

    public static void main(String[] args) throws ReflectiveOperationException {
        Edges.run(EdgesOfAllTest.class);
    }

    // ---- count

    @Says(promise = 45, value = "UNFIT: what is looked for is empty")
    static void countOfAnEmptyTextIsUnfit(Due due) {
        Twins twins = new Twins(due, "abc", "", LONG_TEXT);
        twins.refuse("count(0, 1)", TextShelves.UNFIT, x -> x.count(0, 1));
        twins.refuse("count(1, 1)", TextShelves.UNFIT, x -> x.count(1, 1));
        twins.refuse("count(2, 1)", TextShelves.UNFIT, x -> x.count(2, 1));
    }

    @Says(promise = 45, value = "Returns how many")
    static void countIs0To300(Due due) {
        TextShelves x = Due.with("a".repeat(300), "a", "aa", "a".repeat(299), "b", "", "a".repeat(300));
        due.is("count() of one sign in 300", x.count(0, 1), 300);
        due.is("count() of two signs in 300", x.count(0, 2), 150);
        due.is("count() of 299 signs in 300", x.count(0, 3), 1);
        due.is("count() of 300 signs in 300", x.count(0, 6), 1);
        due.is("count() of itself", x.count(0, 0), 1);
        due.is("count() of 300 signs in 299", x.count(3, 0), 0);
        due.is("count() of another sign", x.count(0, 4), 0);
        due.is("count() in an empty text", x.count(5, 1), 0);
    }

    @Says(promise = 45, value = "looked for from the left, each behind the end of the one ahead")
    static void countedFindsShareNoSign(Due due) {
        TextShelves x = Due.with("aaa", "aa", "ababa", "aba", "abaaba", "aab", "aaab");
        due.is("count() of aa in aaa", x.count(0, 1), 1);
        due.is("count() of aba in ababa", x.count(2, 3), 1);
        due.is("count() of aba in abaaba", x.count(4, 3), 2);
        due.is("count() of aab in aaab", x.count(6, 5), 1);
    }

    // ---- head and foot

    @Says(promise = 46, value = "Returns how many signs two texts have alike from their beginnings on")
    static void headIs0To300(Due due) {
        TextShelves x = Due.with("", LONG_TEXT, LONG_TEXT, LONG_TEXT.substring(0, 299), "Z" + LONG_TEXT.substring(1),
            LONG_TEXT.substring(0, 299) + "Z", LONG_TEXT.substring(0, 1));
        due.is("head() of none and none", x.head(0, 7), 0);
        due.is("head() of none and 300", x.head(0, 1), 0);
        due.is("head() of 300 and none", x.head(1, 0), 0);
        due.is("head() of 300 and the same", x.head(1, 2), 300);
        due.is("head() of one shelf", x.head(1, 1), 300);
        due.is("head() of 300 and the first 299", x.head(1, 3), 299);
        due.is("head() of the first 299 and 300", x.head(3, 1), 299);
        due.is("head() with another first sign", x.head(1, 4), 0);
        due.is("head() with another last sign", x.head(1, 5), 299);
        due.is("head() of the first one and 300", x.head(6, 1), 1);
    }

    @Says(promise = 46, value = "case being told")
    static void headTellsCase(Due due) {
        TextShelves x = Due.with("abc", "abC", "Abc");
        due.is("head() of abc and abC", x.head(0, 1), 2);
        due.is("head() of abc and Abc", x.head(0, 2), 0);
    }

    @Says(promise = 47, value = "Returns how many signs two texts have alike from their ends back")
    static void footIs0To300(Due due) {
        TextShelves x = Due.with("", LONG_TEXT, LONG_TEXT, LONG_TEXT.substring(1), "Z" + LONG_TEXT.substring(1),
            LONG_TEXT.substring(0, 299) + "Z", LONG_TEXT.substring(299));
        due.is("foot() of none and none", x.foot(0, 7), 0);
        due.is("foot() of none and 300", x.foot(0, 1), 0);
        due.is("foot() of 300 and none", x.foot(1, 0), 0);
        due.is("foot() of 300 and the same", x.foot(1, 2), 300);
        due.is("foot() of one shelf", x.foot(1, 1), 300);
        due.is("foot() of 300 and the last 299", x.foot(1, 3), 299);
        due.is("foot() of the last 299 and 300", x.foot(3, 1), 299);
        due.is("foot() with another first sign", x.foot(1, 4), 299);
        due.is("foot() with another last sign", x.foot(1, 5), 0);
        due.is("foot() of the last one and 300", x.foot(6, 1), 1);
    }

    @Says(promise = 47, value = "case being told")
    static void footTellsCase(Due due) {
        TextShelves x = Due.with("abc", "Abc", "abC");
        due.is("foot() of abc and Abc", x.foot(0, 1), 2);
        due.is("foot() of abc and abC", x.foot(0, 2), 0);
    }

    // ---- holds

    private static void holdAll(Due due, String... texts) {
        int[] starts = {MIN, -1, 0, 1, 299, 300, 301, MAX};
        for (int from : starts) {
            TextShelves x = Due.with(texts);
            for (int shelf = 0; shelf < texts.length; shelf++) {
                for (int other = 0; other < texts.length; other++) {
                    due.yes("holds(" + shelf + ", " + other + ", " + from + ")", x.holds(shelf, other, from));
                }
            }
        }
    }

    @Says(promise = 48, value = "always so")
    static void holdsForEmptyAndShortTexts(Due due) {
        holdAll(due, "", "a", ",", "A", "aa", ",,", "a,a", "\0");
    }

    @Says(promise = 48, value = "always so")
    static void holdsForFullTexts(Due due) {
        holdAll(due, COMMAS, LONG_TEXT, "a".repeat(300), "a,".repeat(150), "", ",", "a");
    }

    @Says(promise = 48, value = "and by the text that it is twice, by count()")
    static void holdsWhereTwiceTheFindsAreMoreThan300Signs(Due due) {
        holdAll(due, "a".repeat(300), "a", "aa", "a".repeat(299), "a".repeat(151), "a".repeat(150));
    }

    @Says(promise = 48, value = "`from`: any int")
    static void holdsFromAnyInt(Due due) {
        TextShelves x = Due.with("abcab", "ab", "");
        for (int from : new int[] {MIN, MIN + 1, -6, -1, 0, 4, 5, 6, 300, 301, MAX - 1, MAX}) {
            due.yes("holds(0, 1, " + from + ")", x.holds(0, 1, from));
            due.yes("holds(0, 2, " + from + ")", x.holds(0, 2, from));
            due.yes("holds(2, 0, " + from + ")", x.holds(2, 0, from));
            due.yes("holds(2, 2, " + from + ")", x.holds(2, 2, from));
        }
    }

    @Says(promise = 48, value = "Tells whether what always holds does so for the texts of two shelves, each way anew")
    static void holdsChangesNothing(Due due) {
        Twins twins = new Twins(due, "a,b,,", ",", "", COMMAS);
        for (int from : new int[] {MIN, 0, MAX}) {
            twins.ask("holds(0, 1, " + from + ")", x -> x.holds(0, 1, from));
            twins.ask("holds(3, 1, " + from + ")", x -> x.holds(3, 1, from));
            twins.ask("holds(2, 3, " + from + ")", x -> x.holds(2, 3, from));
        }
    }

    // ---- keep and back

    private static TextShelves fullShelves() {
        TextShelves x = Due.with(LONG_TEXT);
        for (int to = 1; to < 8; to++) {
            x.copy(0, to);
        }
        return x;
    }

    @Says(promise = 49, value = "Returns how many signs the texts of the eight shelves have, together.")
    static void keepReturnsFrom0To2400(Due due) {
        due.is("keep(0) of a new object", new TextShelves().keep(0), 0);
        due.is("keep(0) of eight full texts", fullShelves().keep(0), 2400);
        TextShelves x = new TextShelves();
        x.type(7, 'a');
        due.is("keep(0) of a sign on shelf 7", x.keep(0), 1);
        x.part(7, 'b', -1);
        due.is("keep(0) with a piece", x.keep(0), 1);
    }

    @Says(promise = 49, value = "`image`: any int, which counts modulo 2")
    static void keepTakesAnyIntAsOneOfTwoImages(Due due) {
        int[] even = {MIN, -2, 0, 2, 4, MAX - 1};
        int[] odd = {MIN + 1, -3, -1, 1, 3, MAX};
        for (int i = 0; i < even.length; i++) {
            TextShelves x = Due.with("a");
            x.keep(even[i]);
            x.type(0, 'b');
            x.keep(odd[i]);
            due.is("keep(" + even[i] + "), then back(0)", x.back(0), 1);
            due.is("keep(" + odd[i] + "), then back(1)", x.back(1), 2);
        }
    }

    @Says(promise = 49, value = "Keeps an image of all texts and PIECES.")
    static void keepAnewTakesThePlaceOfTheImageBefore(Due due) {
        TextShelves x = fullShelves();
        x.part(0, 'a', -1);
        x.keep(0);
        for (int shelf = 0; shelf < 8; shelf++) {
            x.wipe(shelf);
        }
        x.part(0, ',', -1);
        due.is("keep(0) of empty texts", x.keep(0), 0);
        x.type(0, 'a');
        x.part(0, 'a', 0);
        due.is("back(0) of empty texts", x.back(0), 0);
        due.is("pieces() of it", x.pieces(), 1);
        due.is("charAt(0, 0) of it", x.charAt(0, 0), TextShelves.BEYOND);
    }

    @Says(promise = 49, value = "Keeps an image of all texts and PIECES.")
    static void keepOfTheMostPieces(Due due) {
        TextShelves x = Due.with(COMMAS);
        x.part(0, ',', -1);
        long kept = x.digest();
        x.keep(1);
        x.wipe(0);
        x.part(0, ',', -1);
        due.is("back(1)", x.back(1), 300);
        due.is("back(1), then pieces()", x.pieces(), 301);
        due.is("back(1), then digest()", x.digest(), kept);
        due.is("back(1), then join(',', 1)", x.join(',', 1), 300);
    }

    @Says(promise = 50, value = "empty, and none, if it never was")
    static void backOfAnImageThatNeverWasKept(Due due) {
        for (int image : new int[] {0, 1, -1, MIN, MAX}) {
            TextShelves x = fullShelves();
            x.part(0, 'a', -1);
            x.keep(image + 1);
            due.is("back(" + image + ")", x.back(image), 0);
            due.is("back(" + image + "), then pieces()", x.pieces(), 0);
            due.is("back(" + image + "), then digest()", x.digest(), new TextShelves().digest());
            due.is("back() of the other image", x.back(image + 1), 2400);
        }
    }

    @Says(promise = 50, value = "The image stays.")
    static void backLeavesTheImageAsItWas(Due due) {
        TextShelves x = Due.with("a,b", "c");
        x.part(0, ',', -1);
        long kept = x.digest();
        x.keep(0);
        for (int i = 0; i < 3; i++) {
            due.is("back(0), number " + i, x.back(0), 4);
            due.is("back(0), number " + i + ", then digest()", x.digest(), kept);
            x.type(0, 'x');
            x.wipe(1);
            x.swap(0, 5);
            x.part(5, 'x', 1);
        }
    }

    @Says(promise = 50, value = "Makes all texts and PIECES as they were when this image was kept last")
    static void backLeavesTheOtherImageAsItWas(Due due) {
        TextShelves x = Due.with("one");
        x.keep(0);
        x.tail(0, 1, 0);
        x.keep(1);
        due.is("back(0)", x.back(0), 3);
        due.is("back(1)", x.back(1), 2);
        due.text("back(1)", x, 0, "ne");
        due.is("back(0) again", x.back(0), 3);
        due.text("back(0) again", x, 0, "one");
    }

    @Says(promise = 50, value = "`image`: any int, which counts modulo 2")
    static void backTakesAnyIntAsOneOfTwoImages(Due due) {
        TextShelves x = Due.with("a");
        x.keep(0);
        x.type(0, 'b');
        x.keep(1);
        for (int image : new int[] {MIN, -2, 0, 2, 4, MAX - 1}) {
            due.is("back(" + image + ")", x.back(image), 1);
        }
        for (int image : new int[] {MIN + 1, -3, -1, 1, 3, MAX}) {
            due.is("back(" + image + ")", x.back(image), 2);
        }
    }

    @Says(promise = 50, value = "Returns how many signs the texts of the eight shelves have then, together.")
    static void backReturnsFrom0To2400(Due due) {
        TextShelves x = fullShelves();
        x.keep(0);
        due.is("back(1), never kept", x.back(1), 0);
        due.is("back(0) of eight full texts", x.back(0), 2400);
        for (int shelf = 0; shelf < 8; shelf++) {
            due.is("back(0), then hash(" + shelf + ")", x.hash(shelf), LONG_TEXT.hashCode());
        }
    }

    // ---- digest

    private static long fold(long h, String text) {
        long folded = 31 * h + text.length();
        for (int i = 0; i < text.length(); i++) {
            folded = 31 * folded + text.charAt(i);
        }
        return folded;
    }

    private static long foldAll(String... texts) {
        long h = 17;
        for (String text : texts) {
            h = fold(h, text);
        }
        return h;
    }

    @Says(promise = 51, value = "h is 17; for each shelf, by numbers, and then for each piece, by numbers")
    static void digestOfEmptyTextsAndNoPieces(Due due) {
        due.is("digest() of a new object", new TextShelves().digest(), foldAll("", "", "", "", "", "", "", ""));
        TextShelves x = Due.with("abc");
        x.wipe(0);
        due.is("digest() behind wipe()", x.digest(), foldAll("", "", "", "", "", "", "", ""));
    }

    @Says(promise = 51, value = "h is 17; for each shelf, by numbers, and then for each piece, by numbers")
    static void digestTellsAnEmptyPieceFromNone(Due due) {
        TextShelves x = new TextShelves();
        x.part(0, ',', -1);
        due.is("digest() with an empty piece", x.digest(), foldAll("", "", "", "", "", "", "", "", ""));
        Due.put(x, 0, ",");
        x.part(0, ',', -1);
        x.wipe(0);
        due.is("digest() with two empty pieces", x.digest(), foldAll("", "", "", "", "", "", "", "", "", ""));
    }

    @Says(promise = 51, value = "h becomes 31 * h and the length of its text, and for each sign 31 * h and the sign")
    static void digestOfTheFirstAndTheLastShelf(Due due) {
        TextShelves x = new TextShelves();
        x.type(0, 0);
        due.is("digest() with a sign on shelf 0", x.digest(), foldAll("\0", "", "", "", "", "", "", ""));
        x.type(7, 127);
        due.is("digest() with a sign on shelf 7, too", x.digest(), foldAll("\0", "", "", "", "", "", "", "\u007f"));
    }

    @Says(promise = 51, value = "and then for each piece, by numbers")
    static void digestGoesThroughThePiecesByNumbers(Due due) {
        TextShelves x = Due.with("ab,,c,def,");
        x.part(0, ',', -1);
        x.wipe(0);
        due.is("digest() with five pieces", x.digest(),
            foldAll("", "", "", "", "", "", "", "", "ab", "", "c", "def", ""));
    }

    @Says(promise = 51, value = "as a long that wraps")
    static void digestOfEightFullTexts(Due due) {
        TextShelves x = fullShelves();
        String[] texts = {LONG_TEXT, LONG_TEXT, LONG_TEXT, LONG_TEXT, LONG_TEXT, LONG_TEXT, LONG_TEXT, LONG_TEXT};
        due.is("digest() of eight full texts", x.digest(), foldAll(texts));
        x.part(0, ',', -1);
        due.is("digest() with a full piece, too", x.digest(), fold(foldAll(texts), LONG_TEXT));
    }

    @Says(promise = 51, value = "as a long that wraps")
    static void digestOfTheMostPieces(Due due) {
        TextShelves x = Due.with(COMMAS);
        x.part(0, ',', -1);
        long want = foldAll(COMMAS, "", "", "", "", "", "", "");
        for (int i = 0; i < 301; i++) {
            want = fold(want, "");
        }
        due.is("digest() with 301 pieces", x.digest(), want);
    }
}
