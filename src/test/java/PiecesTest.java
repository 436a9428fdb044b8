/** Promises 41 to 44: pieces. */
public final class PiecesTest {
    private static final Due DUE = new Due("PiecesTest");
    private static final int MIN = Integer.MIN_VALUE;
    private static final int MAX = Integer.MAX_VALUE;

    public static void main(String[] args) {
        partOfAll();
        partWithoutEmptyEnd();
        partUpToALimit();
        partUnfit();
        partMost();
        piecesStay();
        piece();
        join();
        DUE.end();
    }

    private static void parts(String text, int sign, int limit, String... want) {
        TextShelves x = Due.with(text);
        String call = "part of \"" + text + "\" by " + sign + " with limit " + limit;
        DUE.is(call, x.part(0, sign, limit), want.length);
        DUE.is(call + ", pieces()", x.pieces(), want.length);
        for (int i = 0; i < want.length; i++) {
            DUE.is(call + ", piece(" + i + ", 1)", x.piece(i, 1), want[i].length());
            DUE.text(call + ", piece(" + i + ", 1)", x, 1, want[i]);
        }
        DUE.is(call + ", the piece behind", x.piece(want.length, 1), TextShelves.BEYOND);
        DUE.text(call, x, 0, text);
    }

    private static void partOfAll() {
        parts("a,bc,d", ',', -1, "a", "bc", "d");
        parts(",a,,b,,", ',', -1, "", "a", "", "b", "", "");
        parts(",", ',', -1, "", "");
        parts("abc", ',', -1, "abc");
        parts("", ',', -1, "");
        parts("a,b,", ',', MIN, "a", "b", "");
        parts("\0a\0", 0, -1, "", "a", "");
        parts("a\u007fb", 127, -1, "a", "b");
    }

    private static void partWithoutEmptyEnd() {
        parts("a,bc,d", ',', 0, "a", "bc", "d");
        parts(",a,,b,,", ',', 0, "", "a", "", "b");
        parts(",", ',', 0);
        parts(",,,", ',', 0);
        parts("abc", ',', 0, "abc");
        parts("", ',', 0, "");
        parts("a,", ',', 0, "a");
    }

    private static void partUpToALimit() {
        parts("a,b,c", ',', 1, "a,b,c");
        parts("a,b,c", ',', 2, "a", "b,c");
        parts("a,b,c", ',', 3, "a", "b", "c");
        parts("a,b,c", ',', 4, "a", "b", "c");
        parts("a,b,c", ',', MAX, "a", "b", "c");
        parts("a,b,,", ',', 2, "a", "b,,");
        parts("a,b,,", ',', 3, "a", "b", ",");
        parts("a,b,,", ',', 9, "a", "b", "", "");
        parts(",,", ',', 1, ",,");
        parts(",,", ',', 2, "", ",");
        parts("", ',', 5, "");
        parts("abc", ',', 1, "abc");
    }

    private static void partUnfit() {
        TextShelves x = Due.with("a,b");
        x.part(0, ',', -1);
        long before = x.digest();
        for (int sign = 0; sign < 128; sign++) {
            boolean unfit = ".$|()[{^?*+\\".indexOf(sign) >= 0;
            if (unfit) {
                DUE.is("part by " + sign, x.part(0, sign, 0), TextShelves.UNFIT);
            }
        }
        DUE.is("part by 128", x.part(0, 128, 0), TextShelves.UNFIT);
        DUE.is("part by -1", x.part(0, -1, 0), TextShelves.UNFIT);
        DUE.is("part by MIN", x.part(0, MIN, 0), TextShelves.UNFIT);
        DUE.is("part by MAX", x.part(0, MAX, 0), TextShelves.UNFIT);
        DUE.is("part by 44 and 65536", x.part(0, ',' + 65536, 0), TextShelves.UNFIT);
        DUE.is("refused part()", x.digest(), before);
        for (int sign = 0; sign < 128; sign++) {
            boolean unfit = ".$|()[{^?*+\\".indexOf(sign) >= 0;
            if (!unfit) {
                int want = sign == 'a' || sign == ',' || sign == 'b' ? 2 : 1;
                DUE.is("part by " + sign, x.part(0, sign, -1), want);
            }
        }
    }

    private static void partMost() {
        TextShelves x = Due.with(",".repeat(300), "a".repeat(300));
        DUE.is("part of 300 commas", x.part(0, ',', -1), 301);
        DUE.is("piece(300) of them", x.piece(300, 2), 0);
        DUE.is("piece(301) of them", x.piece(301, 2), TextShelves.BEYOND);
        DUE.is("join of them", x.join(',', 2), 300);
        DUE.text("join of them", x, 2, ",".repeat(300));
        DUE.is("part of 300 commas up to 300", x.part(0, ',', 300), 300);
        DUE.is("piece(299) of them", x.piece(299, 2), 1);
        DUE.is("part of 300 commas without the end", x.part(0, ',', 0), 0);
        DUE.is("part of a full text", x.part(1, ',', 0), 1);
        DUE.is("piece(0) of it", x.piece(0, 2), 300);
        DUE.text("piece(0) of it", x, 2, "a".repeat(300));
        DUE.is("part -7 is part 1", x.part(-7, 'a', 2), 2);
        DUE.is("piece(1) of it", x.piece(1, 2), 299);
    }

    private static void piecesStay() {
        TextShelves x = new TextShelves();
        DUE.is("pieces() at first", x.pieces(), 0);
        Due.put(x, 0, "ab,c");
        DUE.is("pieces() ahead of part()", x.pieces(), 0);
        x.part(0, ',', -1);
        x.wipe(0);
        DUE.is("pieces() behind wipe()", x.pieces(), 2);
        DUE.is("piece(0, 3) behind wipe()", x.piece(0, 3), 2);
        DUE.text("piece(0, 3) behind wipe()", x, 3, "ab");
        x.type(3, 'x');
        DUE.is("piece(0, 4) behind type()", x.piece(0, 4), 2);
        DUE.text("piece(0, 4) behind type()", x, 4, "ab");
        x.part(0, '.', -1);
        DUE.is("pieces() behind a refused part()", x.pieces(), 2);
        x.part(0, ',', -1);
        DUE.is("pieces() of an empty text", x.pieces(), 1);
    }

    private static void piece() {
        TextShelves x = Due.with("ab,,c", "old");
        DUE.is("piece(0, 1) ahead of part()", x.piece(0, 1), TextShelves.BEYOND);
        x.part(0, ',', -1);
        long before = x.digest();
        DUE.is("piece(3, 1)", x.piece(3, 1), TextShelves.BEYOND);
        DUE.is("piece(-1, 1)", x.piece(-1, 1), TextShelves.BEYOND);
        DUE.is("piece(MIN, 1)", x.piece(MIN, 1), TextShelves.BEYOND);
        DUE.is("piece(MAX, 1)", x.piece(MAX, 1), TextShelves.BEYOND);
        DUE.is("piece(8, 1)", x.piece(8, 1), TextShelves.BEYOND);
        DUE.is("refused piece()", x.digest(), before);
        DUE.is("piece(1, 1)", x.piece(1, 1), 0);
        DUE.text("piece(1, 1)", x, 1, "");
        DUE.is("piece(2, -8)", x.piece(2, -8), 1);
        DUE.text("piece(2, -8)", x, 0, "c");
        DUE.is("piece(0, 8)", x.piece(0, 8), 2);
        DUE.text("piece(0, 8)", x, 0, "ab");
    }

    private static void join() {
        TextShelves x = Due.with("ab,,c,", "old", "older");
        DUE.is("join without pieces", x.join(',', 1), 0);
        DUE.text("join without pieces", x, 1, "");
        DUE.is("join of no sign without pieces", x.join(128, 2), TextShelves.UNFIT);
        x.part(0, ',', -1);
        DUE.is("join by the comma", x.join(',', 1), 6);
        DUE.text("join by the comma", x, 1, "ab,,c,");
        DUE.is("join by the point", x.join('.', 9), 6);
        DUE.text("join by the point", x, 1, "ab..c.");
        DUE.is("join by 0", x.join(0, 1), 6);
        DUE.text("join by 0", x, 1, "ab\0\0c\0");
        DUE.is("join by 127", x.join(127, 1), 6);
        DUE.text("join by 127", x, 1, "ab\u007f\u007fc\u007f");
        long before = x.digest();
        DUE.is("join by 128", x.join(128, 1), TextShelves.UNFIT);
        DUE.is("join by -1", x.join(-1, 1), TextShelves.UNFIT);
        DUE.is("join by MIN", x.join(MIN, 1), TextShelves.UNFIT);
        DUE.is("join by MAX", x.join(MAX, 1), TextShelves.UNFIT);
        DUE.is("refused join()", x.digest(), before);
        x.part(0, ',', 0);
        DUE.is("join without the empty end", x.join(',', 1), 5);
        DUE.text("join without the empty end", x, 1, "ab,,c");
        x.part(0, 'b', 1);
        DUE.is("join of one piece", x.join('b', 1), 6);
        DUE.text("join of one piece", x, 1, "ab,,c,");
    }
}
