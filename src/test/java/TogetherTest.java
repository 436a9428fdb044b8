/** Promises 45 to 51: all together. */
public final class TogetherTest {
    private static final Due DUE = new Due("TogetherTest");
    private static final int MIN = Integer.MIN_VALUE;
    private static final int MAX = Integer.MAX_VALUE;

    public static void main(String[] args) {
        count();
        head();
        foot();
        holds();
        holdsOfFullTexts();
        keepAndBack();
        imagesStay();
        digest();
        DUE.end();
    }

    private static void count() {
        TextShelves x = Due.with("aaaaa", "aa", "a", "", "ababa", "aba", "b");
        DUE.is("count aa", x.count(0, 1), 2);
        DUE.is("count a", x.count(0, 2), 5);
        DUE.is("count aba in ababa", x.count(4, 5), 1);
        DUE.is("count b in ababa", x.count(4, 14), 2);
        DUE.is("count b in aaaaa", x.count(0, 6), 0);
        DUE.is("count itself", x.count(0, 0), 1);
        DUE.is("count a longer one", x.count(2, 0), 0);
        DUE.is("count in the empty one", x.count(3, 1), 0);
        DUE.is("count the empty one", x.count(0, 3), TextShelves.UNFIT);
        DUE.is("count the empty one in itself", x.count(3, 3), TextShelves.UNFIT);
        x.repeat(2, 300, 7);
        DUE.is("count a in a full text", x.count(7, 2), 300);
    }

    private static void head() {
        TextShelves x = Due.with("abcd", "abxd", "", "Abcd", "abcdef");
        DUE.is("head abcd, abxd", x.head(0, 1), 2);
        DUE.is("head abxd, abcd", x.head(1, 0), 2);
        DUE.is("head abcd, empty", x.head(0, 2), 0);
        DUE.is("head empty, itself", x.head(2, 2), 0);
        DUE.is("head abcd, Abcd", x.head(0, 3), 0);
        DUE.is("head abcd, abcdef", x.head(0, 4), 4);
        DUE.is("head abcdef, abcd", x.head(4, 0), 4);
        DUE.is("head abcd, itself", x.head(0, 8), 4);
    }

    private static void foot() {
        TextShelves x = Due.with("abcd", "axcd", "", "abcD", "xyabcd");
        DUE.is("foot abcd, axcd", x.foot(0, 1), 2);
        DUE.is("foot axcd, abcd", x.foot(1, 0), 2);
        DUE.is("foot abcd, empty", x.foot(0, 2), 0);
        DUE.is("foot empty, itself", x.foot(2, 2), 0);
        DUE.is("foot abcd, abcD", x.foot(0, 3), 0);
        DUE.is("foot abcd, xyabcd", x.foot(0, 4), 4);
        DUE.is("foot xyabcd, abcd", x.foot(4, 0), 4);
        DUE.is("foot abcd, itself", x.foot(0, -8), 4);
    }

    private static void holds() {
        TextShelves x = Due.with("a,b,,a,", ",", "a,", "", "b", "A,B", ",,,,,,,", "a,b,,a,c");
        x.part(0, ',', 2);
        x.keep(0);
        long before = x.digest();
        int[] starts = {MIN, -1, 0, 1, 3, 7, 8, MAX};
        for (int shelf = 0; shelf < 8; shelf++) {
            for (int other = 0; other < 8; other++) {
                int from = starts[(shelf + 3 * other) % starts.length];
                String call = "holds(" + shelf + ", " + other + ", " + from + ")";
                DUE.yes(call, x.holds(shelf, other, from));
            }
        }
        for (int from : starts) {
            DUE.yes("holds(0, 2, " + from + ")", x.holds(0, 2, from));
            DUE.yes("holds(0, 3, " + from + ")", x.holds(8, -5, from));
        }
        DUE.is("digest() behind holds()", x.digest(), before);
        DUE.is("back(0) behind holds()", x.back(0), 7 + 1 + 2 + 1 + 3 + 7 + 8);
        DUE.is("digest() behind back(0)", x.digest(), before);
    }

    /** What is looked at has up to 600 signs here. */
    private static void holdsOfFullTexts() {
        TextShelves x = Due.with(",".repeat(300), ",", "a".repeat(300), "a".repeat(150) + "b");
        for (int shelf = 0; shelf < 4; shelf++) {
            for (int other = 0; other < 4; other++) {
                String call = "holds(" + shelf + ", " + other + ", 140) of long texts";
                DUE.yes(call, x.holds(shelf, other, 140));
            }
        }
    }

    private static void keepAndBack() {
        TextShelves x = Due.with("a,b", "cd");
        x.part(0, ',', -1);
        long kept = x.digest();
        DUE.is("keep(0)", x.keep(0), 5);
        DUE.is("digest() behind keep(0)", x.digest(), kept);
        x.wipe(0);
        x.type(7, 'z');
        x.part(7, ',', -1);
        long later = x.digest();
        DUE.is("keep(3)", x.keep(3), 3);
        DUE.is("back(-2)", x.back(-2), 5);
        DUE.is("digest() behind back(-2)", x.digest(), kept);
        DUE.text("back(-2)", x, 0, "a,b");
        DUE.text("back(-2)", x, 7, "");
        DUE.is("pieces() behind back(-2)", x.pieces(), 2);
        DUE.is("piece(1, 6) behind back(-2)", x.piece(1, 6), 1);
        DUE.text("piece(1, 6) behind back(-2)", x, 6, "b");
        DUE.is("back(-1)", x.back(-1), 3);
        DUE.is("digest() behind back(-1)", x.digest(), later);
        DUE.is("back(MAX)", x.back(MAX), 3);
        DUE.is("back(MIN)", x.back(MIN), 5);
        DUE.is("digest() behind back(MIN)", x.digest(), kept);
    }

    private static void imagesStay() {
        TextShelves x = Due.with("ab,c");
        x.part(0, ',', -1);
        x.keep(1);
        long kept = x.digest();
        x.back(1);
        x.type(0, 'x');
        x.swap(0, 1);
        x.part(1, 'c', -1);
        DUE.is("back(1) a second time", x.back(1), 4);
        DUE.is("digest() behind back(1) a second time", x.digest(), kept);
        x.wipe(0);
        DUE.is("keep(1) anew", x.keep(1), 0);
        x.type(0, 'y');
        DUE.is("back(1) of the latest image", x.back(1), 0);
        DUE.is("pieces() of the latest image", x.pieces(), 2);
        DUE.is("back(0), never kept", x.back(0), 0);
        DUE.is("pieces(), never kept", x.pieces(), 0);
        DUE.is("digest(), never kept", x.digest(), new TextShelves().digest());
        DUE.is("keep(0) of a full object", keepOfAFullObject(), 2400);
    }

    private static int keepOfAFullObject() {
        TextShelves x = Due.with("a".repeat(300));
        for (int to = 1; to < 8; to++) {
            x.copy(0, to);
        }
        x.keep(0);
        x.wipe(3);
        return x.back(0);
    }

    private static long fold(long h, String text) {
        long folded = 31 * h + text.length();
        for (int i = 0; i < text.length(); i++) {
            folded = 31 * folded + text.charAt(i);
        }
        return folded;
    }

    private static void digest() {
        String[] texts = {"abc", "", "\0", "de,f", "x".repeat(300), "", "A", "\u007f"};
        TextShelves x = Due.with(texts);
        long h = 17;
        for (String text : texts) {
            h = fold(h, text);
        }
        DUE.is("digest() without pieces", x.digest(), h);
        x.part(3, ',', -1);
        DUE.is("digest() with pieces", x.digest(), fold(fold(h, "de"), "f"));
        x.part(1, ',', -1);
        DUE.is("digest() with an empty piece", x.digest(), fold(h, ""));
        DUE.is("digest() again", x.digest(), fold(h, ""));
        x.part(3, 'f', 0);
        DUE.is("digest() with one piece", x.digest(), fold(h, "de,"));
    }
}
