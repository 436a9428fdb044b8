/** Promises 41 to 44: each sentence that names an edge, at that edge. */
public final class EdgesOfPiecesTest {
    private static final int MIN = Integer.MIN_VALUE;
    private static final int MAX = Integer.MAX_VALUE;
    private static final String NO_PARTERS = ".$|()[{^?*+\\";
    private static final String LONG_TEXT = Due.letters(300);
    private static final String COMMAS = ",".repeat(300);
    private static final int[] NO_SIGNS = {-1, -2, 128, 255, 256, ',' - 128, ',' + 128, ',' - 256, ',' + 256,
        ',' + 65536, MIN, MIN + ',', MAX};
    private static final int[] LIMITS = {MIN, -1, 0, 1, 2, 3, 300, 301, MAX};

    public static void main(String[] args) throws ReflectiveOperationException {
        Edges.run(EdgesOfPiecesTest.class);
    }

    private static void parts(Due due, String text, int sign, int limit, String... want) {
        TextShelves x = Due.with(text);
        String call = "part(0, " + sign + ", " + limit + ") of \"" + text + "\"";
        due.is(call, x.part(0, sign, limit), want.length);
        due.is(call + ", then pieces()", x.pieces(), want.length);
        for (int i = 0; i < want.length; i++) {
            due.is(call + ", then piece(" + i + ", 1)", x.piece(i, 1), want[i].length());
            due.text(call + ", then piece(" + i + ", 1)", x, 1, want[i]);
        }
        due.is(call + ", then piece(" + want.length + ", 1)", x.piece(want.length, 1), TextShelves.BEYOND);
        due.text(call, x, 0, text);
    }

    // ---- part

    @Says(promise = 41, value = "`sign`: 0 to 127")
    static void partTakesTheSigns0And127(Due due) {
        parts(due, "a\0b", 0, -1, "a", "b");
        parts(due, "a\u007fb", 127, -1, "a", "b");
        parts(due, "a\0b", 127, -1, "a\0b");
        parts(due, "a\u0001b", 1, -1, "a", "b");
        parts(due, "a~b", 126, -1, "a", "b");
    }

    @Says(promise = 41, value = "`sign`: 0 to 127")
    static void partRefusesWhatIsNoSign(Due due) {
        for (int sign : NO_SIGNS) {
            Twins twins = new Twins(due, "a,b", "", LONG_TEXT);
            for (int shelf = 0; shelf < 3; shelf++) {
                int told = shelf;
                twins.refuse("part(" + shelf + ", " + sign + ", -1)", TextShelves.UNFIT, x -> x.part(told, sign, -1));
            }
            twins.refuse("part(0, " + sign + ", 0)", TextShelves.UNFIT, x -> x.part(0, sign, 0));
            twins.refuse("part(0, " + sign + ", 1)", TextShelves.UNFIT, x -> x.part(0, sign, 1));
        }
    }

    @Says(promise = 41, value = "but none of . $ | ( ) [ { ^ ? * + and the backslash")
    static void partRefusesEachOfTheTwelveSigns(Due due) {
        for (int i = 0; i < NO_PARTERS.length(); i++) {
            int sign = NO_PARTERS.charAt(i);
            Twins twins = new Twins(due, "a" + (char) sign + "b", "");
            for (int limit : LIMITS) {
                twins.refuse("part(0, " + sign + ", " + limit + ")", TextShelves.UNFIT, x -> x.part(0, sign, limit));
                twins.refuse("part(1, " + sign + ", " + limit + ")", TextShelves.UNFIT, x -> x.part(1, sign, limit));
            }
        }
    }

    @Says(promise = 41, value = "`sign`: 0 to 127, but none of . $ | ( ) [ { ^ ? * + and the backslash")
    static void partTakesEachOtherSign(Due due) {
        for (int sign = 0; sign < 128; sign++) {
            if (NO_PARTERS.indexOf(sign) < 0) {
                String by = String.valueOf((char) sign);
                parts(due, "12" + by + "34", sign, -1, ("12" + by + "34").split(by, -1));
            }
        }
    }

    @Says(promise = 41, value = "what is ahead of the first such sign, between two, and behind the last one are the"
        + " PIECES, in this order, also empty ones")
    static void partLeavesEmptyPiecesAheadBetweenAndBehind(Due due) {
        parts(due, ",", ',', -1, "", "");
        parts(due, ",,", ',', -1, "", "", "");
        parts(due, ",a", ',', -1, "", "a");
        parts(due, "a,", ',', -1, "a", "");
        parts(due, "a,,b", ',', -1, "a", "", "b");
        parts(due, ",,a,,b,,", ',', -1, "", "", "a", "", "b", "", "");
    }

    @Says(promise = 41, value = "without such a sign all of the text is the one piece")
    static void partWithoutSuchASignIsOnePiece(Due due) {
        for (int limit : LIMITS) {
            parts(due, "abc", ',', limit, "abc");
            parts(due, "a", ',', limit, "a");
            parts(due, LONG_TEXT, ',', limit, LONG_TEXT);
        }
    }

    @Says(promise = 41, value = "without such a sign all of the text is the one piece")
    static void partOfAnEmptyTextIsOneEmptyPiece(Due due) {
        for (int limit : LIMITS) {
            parts(due, "", ',', limit, "");
        }
    }

    @Says(promise = 41, value = "above 0: there are at most so many pieces")
    static void partMakesAtMostAsManyPiecesAsTheLimit(Due due) {
        for (int limit : new int[] {1, 2, 3, 299, 300, 301, 302, MAX}) {
            TextShelves x = Due.with(COMMAS);
            int want = Math.min(301, limit);
            due.is("part() of 300 commas with limit " + limit, x.part(0, ',', limit), want);
            due.is("the last piece of them with limit " + limit, x.piece(want - 1, 1), 301 - want);
            due.is("the piece behind them with limit " + limit, x.piece(want, 1), TextShelves.BEYOND);
        }
    }

    @Says(promise = 41, value = "the last one having all that is behind the sign ahead of it, these signs, too")
    static void theLastPieceOfALimitHasTheSignsThatFollow(Due due) {
        parts(due, "a,b,c", ',', 1, "a,b,c");
        parts(due, "a,b,c", ',', 2, "a", "b,c");
        parts(due, "a,b,c", ',', 3, "a", "b", "c");
        parts(due, "a,b,c", ',', 4, "a", "b", "c");
        parts(due, ",,", ',', 1, ",,");
        parts(due, ",,", ',', 2, "", ",");
        parts(due, ",a", ',', 1, ",a");
    }

    @Says(promise = 41, value = "above 0: there are at most so many pieces")
    static void partWithALimitAbove0KeepsEmptyPiecesAtTheEnd(Due due) {
        parts(due, "a,,", ',', 2, "a", ",");
        parts(due, "a,,", ',', 3, "a", "", "");
        parts(due, "a,,", ',', 4, "a", "", "");
        parts(due, "a,,", ',', MAX, "a", "", "");
        parts(due, ",", ',', 2, "", "");
    }

    @Says(promise = 41, value = "0: empty pieces at the end are left out")
    static void partWithLimit0LeavesOutEmptyPiecesAtTheEndAlone(Due due) {
        parts(due, "a,", ',', 0, "a");
        parts(due, "a,,,", ',', 0, "a");
        parts(due, ",a", ',', 0, "", "a");
        parts(due, ",,a,,b,,", ',', 0, "", "", "a", "", "b");
        parts(due, "a,b", ',', 0, "a", "b");
    }

    @Says(promise = 41, value = "0: empty pieces at the end are left out")
    static void partWithLimit0OfNothingButTheSignLeavesNoPiece(Due due) {
        parts(due, ",", ',', 0);
        parts(due, ",,", ',', 0);
        TextShelves x = Due.with(COMMAS, "a,b");
        x.part(1, ',', -1);
        due.is("part() of 300 commas with limit 0", x.part(0, ',', 0), 0);
        due.is("piece(0, 1) of no pieces", x.piece(0, 1), TextShelves.BEYOND);
        due.is("join() of no pieces", x.join(',', 1), 0);
    }

    @Says(promise = 41, value = "but the one piece of a text without such a sign stays")
    static void partWithLimit0KeepsTheOnePiece(Due due) {
        parts(due, "", ',', 0, "");
        parts(due, "abc", ',', 0, "abc");
        parts(due, ".", ',', 0, ".");
    }

    @Says(promise = 41, value = "below 0: all pieces")
    static void partWithALimitBelow0KeepsAllPieces(Due due) {
        for (int limit : new int[] {-1, -2, -300, MIN + 1, MIN}) {
            parts(due, "a,,b,,", ',', limit, "a", "", "b", "", "");
            TextShelves x = Due.with(COMMAS);
            due.is("part() of 300 commas with limit " + limit, x.part(0, ',', limit), 301);
        }
    }

    @Says(promise = 41, value = "Returns how many pieces; UNFIT.")
    static void partReturnsUpTo301Pieces(Due due) {
        TextShelves x = Due.with(COMMAS, LONG_TEXT.substring(0, 299) + ",", "," + LONG_TEXT.substring(1));
        due.is("part() of 300 commas", x.part(0, ',', -1), 301);
        due.is("part() with the sign at the end", x.part(1, ',', -1), 2);
        due.is("its piece(0, 7)", x.piece(0, 7), 299);
        due.text("its piece(0, 7)", x, 7, LONG_TEXT.substring(0, 299));
        due.is("its piece(1, 7)", x.piece(1, 7), 0);
        due.is("part() with the sign at the beginning", x.part(2, ',', -1), 2);
        due.is("its piece(1, 7)", x.piece(1, 7), 299);
        due.text("its piece(1, 7)", x, 7, LONG_TEXT.substring(1));
    }

    // ---- pieces and piece

    @Says(promise = 42, value = "Returns how many PIECES there are.")
    static void piecesAre0To301(Due due) {
        TextShelves x = Due.with(COMMAS, ",", "");
        due.is("pieces() at first", x.pieces(), 0);
        x.part(0, ',', -1);
        due.is("pieces() of 300 commas", x.pieces(), 301);
        x.part(2, ',', -1);
        due.is("pieces() of an empty text", x.pieces(), 1);
        x.part(1, ',', 0);
        due.is("pieces() of a comma with limit 0", x.pieces(), 0);
    }

    @Says(promise = 43, value = "Returns how many signs; BEYOND: there is no such piece.")
    static void pieceTakesTheFirstAndTheLast(Due due) {
        TextShelves x = Due.with("ab,c,def", COMMAS.substring(0, 298) + "xy", "an old text");
        x.part(0, ',', -1);
        due.is("piece(0, 2)", x.piece(0, 2), 2);
        due.text("piece(0, 2)", x, 2, "ab");
        due.is("piece(2, 2)", x.piece(2, 2), 3);
        due.text("piece(2, 2)", x, 2, "def");
        x.part(1, ',', -1);
        due.is("piece(298, 2)", x.piece(298, 2), 2);
        due.text("piece(298, 2)", x, 2, "xy");
        due.is("piece(299, 2)", x.piece(299, 2), TextShelves.BEYOND);
    }

    @Says(promise = 43, value = "BEYOND: there is no such piece.")
    static void pieceBelow0IsBeyond(Due due) {
        Twins twins = new Twins(due, x -> {
            Due.put(x, 0, "a,b");
            x.part(0, ',', -1);
        });
        for (int piece : new int[] {-1, -2, -8, -301, MIN + 1, MIN}) {
            twins.refuse("piece(" + piece + ", 0)", TextShelves.BEYOND, x -> x.piece(piece, 0));
        }
    }

    @Says(promise = 43, value = "BEYOND: there is no such piece.")
    static void pieceAtTheNumberOfPiecesAndAboveIsBeyond(Due due) {
        Twins twins = new Twins(due, x -> {
            Due.put(x, 0, "a,b");
            x.part(0, ',', -1);
        });
        for (int piece : new int[] {2, 3, 8, 300, 301, MAX - 1, MAX}) {
            twins.refuse("piece(" + piece + ", 0)", TextShelves.BEYOND, x -> x.piece(piece, 0));
        }
        Twins most = new Twins(due, x -> {
            Due.put(x, 0, COMMAS);
            x.part(0, ',', -1);
        });
        for (int piece : new int[] {301, 302, MAX}) {
            most.refuse("piece(" + piece + ", 0) of 301", TextShelves.BEYOND, x -> x.piece(piece, 0));
        }
    }

    @Says(promise = 43, value = "BEYOND: there is no such piece.")
    static void pieceOfNoPiecesIsBeyond(Due due) {
        Twins none = new Twins(due, x -> {
            Due.put(x, 0, ",");
            x.part(0, ',', 0);
        });
        for (int piece : new int[] {MIN, -1, 0, 1, MAX}) {
            none.refuse("piece(" + piece + ", 0) of none", TextShelves.BEYOND, x -> x.piece(piece, 0));
            due.is("piece(" + piece + ", 0) at first", new TextShelves().piece(piece, 0), TextShelves.BEYOND);
        }
    }

    @Says(promise = 43, value = "Lays a piece.")
    static void fewerPiecesLeaveNoneOfTheOnesBefore(Due due) {
        TextShelves x = Due.with("a,b,c", "de");
        x.part(0, ',', -1);
        x.part(1, ',', -1);
        due.is("piece(0, 2)", x.piece(0, 2), 2);
        due.text("piece(0, 2)", x, 2, "de");
        due.is("piece(1, 2)", x.piece(1, 2), TextShelves.BEYOND);
        due.is("piece(2, 2)", x.piece(2, 2), TextShelves.BEYOND);
    }

    // ---- join

    @Says(promise = 44, value = "`sign`: 0 to 127")
    static void joinTakesTheSigns0And127(Due due) {
        TextShelves x = Due.with("a,,b", "an old text");
        x.part(0, ',', -1);
        for (int sign : new int[] {0, 1, '.', 126, 127}) {
            due.is("join(" + sign + ", 1)", x.join(sign, 1), 4);
            due.text("join(" + sign + ", 1)", x, 1, "a,,b".replace(',', (char) sign));
        }
    }

    @Says(promise = 44, value = "`sign`: 0 to 127")
    static void joinTakesEachOfTheSignsThatPartRefuses(Due due) {
        for (int i = 0; i < NO_PARTERS.length(); i++) {
            TextShelves x = Due.with("a,b");
            x.part(0, ',', -1);
            due.is("join(" + (int) NO_PARTERS.charAt(i) + ", 1)", x.join(NO_PARTERS.charAt(i), 1), 3);
            due.text("join(" + (int) NO_PARTERS.charAt(i) + ", 1)", x, 1, "a" + NO_PARTERS.charAt(i) + "b");
        }
    }

    @Says(promise = 44, value = "UNFIT")
    static void joinRefusesWhatIsNoSign(Due due) {
        Twins some = new Twins(due, "old");
        Twins one = new Twins(due, x -> {
            Due.put(x, 0, "a");
            x.part(0, ',', -1);
        });
        Twins none = new Twins(due, x -> {
            Due.put(x, 0, ",");
            x.part(0, ',', 0);
        });
        for (int sign : NO_SIGNS) {
            some.refuse("join(" + sign + ", 0)", TextShelves.UNFIT, x -> x.join(sign, 0));
            one.refuse("join(" + sign + ", 0) of one piece", TextShelves.UNFIT, x -> x.join(sign, 0));
            none.refuse("join(" + sign + ", 0) of no pieces", TextShelves.UNFIT, x -> x.join(sign, 0));
        }
    }

    @Says(promise = 44, value = "0 if there are no pieces")
    static void joinOfNoPiecesLaysAnEmptyText(Due due) {
        TextShelves x = Due.with("an old text", "another one", ",");
        due.is("join(',', 0) at first", x.join(',', 0), 0);
        due.text("join(',', 0) at first", x, 0, "");
        x.part(2, ',', 0);
        due.is("join(',', 1) of no pieces", x.join(',', 1), 0);
        due.text("join(',', 1) of no pieces", x, 1, "");
    }

    @Says(promise = 44, value = "with a sign between each two")
    static void joinPutsNoSignAtTheEnds(Due due) {
        TextShelves x = Due.with("abc", "", "a,b", ",");
        int[] want = {3, 0, 3, 1};
        for (int shelf = 0; shelf < 4; shelf++) {
            x.part(shelf, ',', -1);
            due.is("join(';', 7) of text " + shelf, x.join(';', 7), want[shelf]);
            due.is("join(';', 7) of text " + shelf + ", then first()", x.first(7, ';'),
                new int[] {-1, -1, 1, 0}[shelf]);
        }
    }

    @Says(promise = 44, value = "Returns how many signs, 0 if there are no pieces; UNFIT; FULL.")
    static void joinUpTo300Signs(Due due) {
        String[] texts = {COMMAS, LONG_TEXT, LONG_TEXT.substring(0, 299) + ",", "a,".repeat(150)};
        TextShelves x = Due.with(texts);
        for (int shelf = 0; shelf < texts.length; shelf++) {
            x.part(shelf, ',', -1);
            due.is("join(';', 7) of text " + shelf, x.join(';', 7), 300);
            due.text("join(';', 7) of text " + shelf, x, 7, texts[shelf].replace(',', ';'));
        }
    }
}
