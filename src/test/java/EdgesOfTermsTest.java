import java.util.LinkedHashMap;
import java.util.Map;

/** What the document says ahead of its promises: each sentence that names an edge, at that edge. */
public final class EdgesOfTermsTest {
    private static final int MIN = Integer.MIN_VALUE;
    private static final int MAX = Integer.MAX_VALUE;
    private static final int MOST_CALLS = 512;
    private static final String NO_PARTERS = ".$|()[{^?*+\\";
    private static final String[] EDGE_TEXTS = {"", "a", "b", "aa", "aba", "abaab", "a".repeat(299) + "b",
        "b" + "a".repeat(299), "a".repeat(300)};
    // Eight texts, none of them empty, that hold one another in part.
    private static final String[] EIGHT = {" ab,ab", "ab", "b", "bab", "aB,\t", "ba", "a", "abab "};

    public static void main(String[] args) throws ReflectiveOperationException {
        Edges.run(EdgesOfTermsTest.class);
    }

    // ---- what it is

    @Says(promise = 0, value = "An object is used for at most 512 calls after it has been made")
    static void theLastOf512CallsIsAnswered(Due due) {
        TextShelves x = new TextShelves();
        for (int i = 1; i <= 300; i++) {
            due.is("type() as call " + i, x.type(0, 'a'), i);
        }
        for (int i = 301; i < MOST_CALLS; i++) {
            due.is("type() as call " + i, x.type(1, 'b'), i - 300);
        }
        due.is("concat() as call 512", x.concat(1, 2, 3), MOST_CALLS - 301);
    }

    @Says(promise = 0, value = "An object is used for at most 512 calls after it has been made")
    static void theLastOf512DearCallsIsAnswered(Due due) {
        TextShelves x = Due.with("a".repeat(300));
        for (int i = 39; i < MOST_CALLS - 1; i += 2) {
            due.is("part() as call " + i, x.part(0, 'a', -1), 301);
            due.is("keep() as call " + (i + 1), x.keep(i), 300);
        }
        due.is("back() as call 511", x.back(1), 300);
        due.is("join() as call 512", x.join('b', 1), 300);
    }

    // ---- what always holds

    private static int firstPlace(String text, String piece, int from) {
        int start = Math.max(0, Math.min(from, text.length()));
        for (int place = start; place <= text.length(); place++) {
            if (text.startsWith(piece, place)) {
                return place;
            }
        }
        return TextShelves.NONE;
    }

    private static int lastPlace(String text, String piece, int from) {
        for (int place = Math.min(from, text.length()); place >= 0; place--) {
            if (text.startsWith(piece, place)) {
                return place;
            }
        }
        return TextShelves.NONE;
    }

    private static int[] startsAround(int length) {
        return new int[] {MIN, MIN + 1, -1, 0, 1, length - 1, length, length + 1, MAX - 1, MAX};
    }

    private interface Pair {
        void of(TextShelves x, String text, String piece);
    }

    /** The two texts of a pair are on the shelves 0 and 1. */
    private static void eachPair(Pair pair) {
        for (String text : EDGE_TEXTS) {
            for (String piece : EDGE_TEXTS) {
                pair.of(Due.with(text, piece), text, piece);
            }
        }
    }

    private static String named(String call, String text, String piece, int number) {
        return call + " of \"" + text + "\" and \"" + piece + "\" at " + number;
    }

    @Says(promise = 0, value = "the least place, no less than 0 and no less than the start")
    static void theFirstPlaceIsTheLeastOneFromTheStartOn(Due due) {
        eachPair((x, text, piece) -> {
            for (int from : startsAround(text.length())) {
                due.is(named("findFrom", text, piece, from), x.findFrom(0, 1, from), firstPlace(text, piece, from));
            }
        });
    }

    @Says(promise = 0, value = "a start above the length of s counting as that length")
    static void aStartAboveTheLengthCountsAsTheLength(Due due) {
        eachPair((x, text, piece) -> {
            int atTheEnd = x.findFrom(0, 1, text.length());
            for (int from : new int[] {text.length() + 1, 301, MAX}) {
                due.is(named("findFrom", text, piece, from), x.findFrom(0, 1, from), atTheEnd);
            }
        });
    }

    @Says(promise = 0, value = "the last place from a start back is the greatest one, no more than the start,"
        + " at which it stands")
    static void theLastPlaceIsTheGreatestOneFromTheStartBack(Due due) {
        eachPair((x, text, piece) -> {
            for (int from : startsAround(text.length())) {
                due.is(named("findLastFrom", text, piece, from), x.findLastFrom(0, 1, from),
                    lastPlace(text, piece, from));
            }
        });
    }

    @Says(promise = 0, value = "there is none just if there is no such place")
    static void thereIsNoPlaceJustIfTheTextStandsAtNone(Due due) {
        eachPair((x, text, piece) -> {
            due.is(named("find", text, piece, 0), x.find(0, 1), firstPlace(text, piece, 0));
            due.is(named("findLast", text, piece, 0), x.findLast(0, 1), lastPlace(text, piece, MAX));
            due.is(named("contains", text, piece, 0), x.contains(0, 1) ? 1 : 0, text.contains(piece) ? 1 : 0);
        });
    }

    @Says(promise = 0, value = "The order of two texts changes its sign as they change sides")
    static void theOrderChangesItsSignWithTheSides(Due due) {
        eachPair((x, text, other) -> {
            due.is(named("compare", text, other, 0), x.compare(0, 1), -x.compare(1, 0));
            due.is(named("compareAlike", text, other, 0), x.compareAlike(0, 1), -x.compareAlike(1, 0));
        });
    }

    @Says(promise = 0, value = "it is 0 just for texts that are the same")
    static void theOrderIs0JustForTheSame(Due due) {
        eachPair((x, text, other) ->
            due.is(named("compare", text, other, 0), x.compare(0, 1) == 0 ? 1 : 0, text.equals(other) ? 1 : 0));
    }

    @Says(promise = 0, value = "if one of them begins with the other, it is the difference of their lengths")
    static void theOrderOfATextAndItsBeginningIsTheDifferenceOfLengths(Due due) {
        for (int n : new int[] {0, 1, 2, 299, 300}) {
            TextShelves x = Due.with(Due.letters(300), Due.letters(n));
            due.is("compare() of 300 signs and the first " + n, x.compare(0, 1), 300 - n);
            due.is("compare() of the first " + n + " and 300 signs", x.compare(1, 0), n - 300);
        }
    }

    @Says(promise = 0, value = "A text in which a piece that is not empty is replaced is the text in which the"
        + " finds of the piece, looked for from the left, each behind the end of the one ahead, have become the"
        + " other text.")
    static void aReplacedTextHasTheOtherTextForEachFind(Due due) {
        eachPair((x, text, piece) -> {
            if (!piece.isEmpty()) {
                String want = text.replace(piece, "ba");
                Due.put(x, 2, "ba");
                boolean full = want.length() > 300;
                due.is(named("replaceText", text, piece, 0), x.replaceText(0, 1, 2, 3),
                    full ? TextShelves.FULL : want.length());
                due.text(named("replaceText", text, piece, 0), x, 3, full ? "" : want);
            }
        });
    }

    @Says(promise = 0, value = "A text that is parted by a sign, with all pieces kept, and joined by that sign"
        + " is the text.")
    static void aTextPartedAndJoinedIsTheText(Due due) {
        for (int sign = 0; sign < 128; sign++) {
            if (NO_PARTERS.indexOf(sign) >= 0) {
                continue;
            }
            String by = String.valueOf((char) sign);
            String[] texts = {"", by, by + by, "A" + by, by + "Z", by.repeat(300), Due.letters(300)};
            TextShelves x = Due.with(texts);
            for (int shelf = 0; shelf < texts.length; shelf++) {
                x.part(shelf, sign, -1);
                due.is("join(" + sign + ") of text " + shelf, x.join(sign, 7), texts[shelf].length());
                due.yes("same() of text " + shelf + " parted by " + sign, x.same(7, shelf));
            }
        }
    }

    @Says(promise = 0, value = "m times a text that is n times another one is m * n times that one.")
    static void timesOfTimesAreTimes(Due due) {
        int[][] times = {{0, 0}, {0, 5}, {5, 0}, {1, 0}, {0, 1}, {1, 1}, {1, 42}, {42, 1}, {2, 21}, {6, 7}};
        for (int[] pair : times) {
            TextShelves x = Due.with("abcdefg");
            x.repeat(0, pair[0], 1);
            due.is(pair[1] + " times " + pair[0] + " times", x.repeat(1, pair[1], 2), 7 * pair[0] * pair[1]);
            x.repeat(0, pair[0] * pair[1], 3);
            due.yes(pair[1] + " times " + pair[0] + " times, same()", x.same(2, 3));
        }
    }

    // ---- shelves

    @Says(promise = 0, value = "SHELVES are 0 to 7.")
    static void eightShelvesHaveTextsOfTheirOwn(Due due) {
        TextShelves x = Due.with(EIGHT);
        for (int shelf = 0; shelf < 8; shelf++) {
            due.text("eight texts", x, shelf, EIGHT[shelf]);
        }
    }

    @Says(promise = 0, value = "Each has a text, a row of 0 to 300 signs")
    static void eachShelfTakes300Signs(Due due) {
        TextShelves x = Due.with(Due.letters(300));
        for (int shelf = 1; shelf < 8; shelf++) {
            due.is("copy() of 300 signs to " + shelf, x.copy(0, shelf), 300);
        }
        for (int shelf = 0; shelf < 8; shelf++) {
            due.text("eight full texts", x, shelf, Due.letters(300));
            due.is("type() on the full shelf " + shelf, x.type(shelf, 'a'), TextShelves.FULL);
        }
    }

    @Says(promise = 0, value = "a sign is a number from 0 to 127, as in ASCII")
    static void eachSignFrom0To127IsKeptAsItIs(Due due) {
        TextShelves x = new TextShelves();
        for (int sign = 0; sign < 128; sign++) {
            x.type(0, sign);
        }
        due.is("length() with all signs", x.length(0), 128);
        for (int sign = 0; sign < 128; sign++) {
            due.is("charAt() of sign " + sign, x.charAt(0, sign), sign);
        }
    }

    @Says(promise = 0, value = "All texts are empty at first.")
    static void allTextsAreEmptyAtFirst(Due due) {
        TextShelves x = new TextShelves();
        for (int shelf = 0; shelf < 8; shelf++) {
            due.yes("isEmpty(" + shelf + ") at first", x.isEmpty(shelf));
        }
    }

    /** The name of a shelf that is as far off as it gets, then some near ones. */
    private static int[] otherNamesOf(int shelf) {
        return new int[] {MIN + shelf, MAX - 7 + shelf, -8 + shelf, 8 + shelf, -1000000000 + shelf, 1 << 30 | shelf};
    }

    private static TextShelves eightTextsAndPieces() {
        TextShelves x = Due.with(EIGHT);
        x.part(7, 'b', -1);
        return x;
    }

    private static void sameOnOtherNames(Due due, Map<String, Calls.Call> calls) {
        calls.forEach((name, call) -> {
            for (int shelf = 0; shelf < 8; shelf++) {
                for (int told : otherNamesOf(shelf)) {
                    sameOnAnotherName(due, name, call, shelf, told);
                }
            }
        });
    }

    private static void sameOnAnotherName(Due due, String name, Calls.Call call, int shelf, int told) {
        for (int position = 0; position < 4; position++) {
            int[] near = {1, 2, 3, 4};
            int[] far = near.clone();
            near[position] = shelf;
            far[position] = told;
            TextShelves x = eightTextsAndPieces();
            TextShelves y = eightTextsAndPieces();
            String which = name + " with shelf " + told + " as number " + position;
            due.is(which, call.of(x, far[0], far[1], far[2], far[3]), call.of(y, near[0], near[1], near[2], near[3]));
            due.is(which + ", then digest()", x.digest(), y.digest());
        }
    }

    @Says(promise = 0, value = "A shelf is told by any int, which counts modulo 8, the remainder never being below 0")
    static void anyIntIsAShelfWhereOneIsChanged(Due due) {
        sameOnOtherNames(due, Calls.CHANGING);
    }

    @Says(promise = 0, value = "A shelf is told by any int, which counts modulo 8, the remainder never being below 0")
    static void anyIntIsAShelfWhereATextIsLaid(Due due) {
        sameOnOtherNames(due, Calls.LAYING);
    }

    @Says(promise = 0, value = "A shelf is told by any int, which counts modulo 8, the remainder never being below 0")
    static void anyIntIsAShelfWhereOneIsAsked(Due due) {
        sameOnOtherNames(due, Calls.ASKING);
    }

    @Says(promise = 0, value = "so there is always such a shelf")
    static void theRemainderOfAShelfIsNeverBelow0(Due due) {
        int[] told = {MIN, MIN + 1, -9, -8, -7, -1, 0, 7, 8, 9, MAX - 1, MAX};
        int[] meant = {0, 1, 7, 0, 1, 7, 0, 7, 0, 1, 6, 7};
        for (int i = 0; i < told.length; i++) {
            TextShelves x = new TextShelves();
            x.type(told[i], 'a');
            due.is("type(" + told[i] + ", 'a'), then length(" + meant[i] + ")", x.length(meant[i]), 1);
        }
    }

    @Says(promise = 0, value = "Places in a text are counted from 0.")
    static void placesAreCountedFrom0(Due due) {
        TextShelves x = Due.with("abc", "a");
        due.is("charAt(0, 0)", x.charAt(0, 0), 'a');
        due.is("first(0, 'a')", x.first(0, 'a'), 0);
        due.is("last(0, 'a')", x.last(0, 'a'), 0);
        due.is("find(0, 1)", x.find(0, 1), 0);
        due.is("findLast(0, 1)", x.findLast(0, 1), 0);
        due.is("substring(0, 0, 1, 2)", x.substring(0, 0, 1, 2), 1);
        due.text("substring(0, 0, 1, 2)", x, 2, "a");
    }

    // ---- pieces

    private static void pieces(Due due, String when, TextShelves x, String... want) {
        due.is(when + ", pieces()", x.pieces(), want.length);
        for (int i = 0; i < want.length; i++) {
            due.is(when + ", piece(" + i + ", 7)", x.piece(i, 7), want[i].length());
            due.text(when + ", piece(" + i + ", 7)", x, 7, want[i]);
        }
    }

    @Says(promise = 0, value = "a row of texts, numbered from 0")
    static void piecesAreNumberedFrom0(Due due) {
        TextShelves x = Due.with("a,,bc");
        x.part(0, ',', -1);
        pieces(due, "part()", x, "a", "", "bc");
        due.is("piece(3, 7)", x.piece(3, 7), TextShelves.BEYOND);
    }

    @Says(promise = 0, value = "those that the latest part() that was not refused made")
    static void theLatestPartMakesThePieces(Due due) {
        TextShelves x = Due.with("a,b,c", "d,e");
        x.part(0, ',', -1);
        x.part(1, ',', -1);
        pieces(due, "the second part()", x, "d", "e");
        x.part(2, ',', -1);
        pieces(due, "part() of an empty text", x, "");
    }

    @Says(promise = 0, value = "those that the latest part() that was not refused made")
    static void aRefusedPartLeavesThePieces(Due due) {
        TextShelves x = Due.with("a,b,c", "d.e");
        x.part(0, ',', -1);
        x.part(1, '.', -1);
        x.part(1, 128, -1);
        x.part(1, -1, 0);
        pieces(due, "refused part()", x, "a", "b", "c");
    }

    @Says(promise = 0, value = "none at first")
    static void thereAreNoPiecesAtFirst(Due due) {
        TextShelves x = Due.with("a,b");
        pieces(due, "no part()", x);
        due.is("piece(0, 7) without part()", x.piece(0, 7), TextShelves.BEYOND);
    }

    @Says(promise = 0, value = "They stay as they are, whatever becomes of the shelves.")
    static void piecesStayWhateverBecomesOfTheShelves(Due due) {
        Map<String, Calls.Call> calls = new LinkedHashMap<>(Calls.LAYING);
        calls.putAll(Calls.CHANGING);
        calls.remove("part");
        calls.forEach((name, call) -> {
            TextShelves x = eightTextsAndPieces();
            call.of(x, 7, 6, 5, 7);
            pieces(due, name, x, "a", "a", " ");
        });
    }

    @Says(promise = 0, value = "They stay as they are, whatever becomes of the shelves.")
    static void piecesStayWhenAllShelvesAreWiped(Due due) {
        TextShelves x = eightTextsAndPieces();
        for (int shelf = 0; shelf < 8; shelf++) {
            x.wipe(shelf);
        }
        pieces(due, "wipe() of all", x, "a", "a", " ");
    }

    // ---- alike and blank

    private static boolean areAlike(int sign, int other) {
        boolean small = sign >= 'a' && sign <= 'z';
        boolean capital = sign >= 'A' && sign <= 'Z';
        return sign == other || small && other == sign - 32 || capital && other == sign + 32;
    }

    @Says(promise = 0, value = "Two signs are ALIKE, if they are the same, or the same letter of a to z, one of them"
        + " a capital one.")
    static void onlyTheSameSignsAndLettersAreAlike(Due due) {
        for (int sign = 0; sign < 128; sign++) {
            TextShelves x = new TextShelves();
            x.type(1, sign);
            for (int other = 0; other < 128; other++) {
                x.wipe(0);
                x.type(0, other);
                boolean got = x.regionAlike(0, 0, 1, 0, 1);
                due.is(sign + " alike " + other, got ? 1 : 0, areAlike(sign, other) ? 1 : 0);
            }
        }
    }

    @Says(promise = 0, value = "Two texts are ALIKE, if they have the same length and ALIKE signs at each place.")
    static void textsAreAlikeInLengthAndAtEachPlace(Due due) {
        String text = "aZ".repeat(150);
        String other = "Az".repeat(150);
        TextShelves x = Due.with(text, other, other.substring(0, 299), "b" + other.substring(1),
            other.substring(0, 299) + "y");
        due.yes("alike() of 300 signs", x.alike(0, 1));
        due.no("alike() of 300 signs and 299", x.alike(0, 2));
        due.no("alike() of 299 signs and 300", x.alike(2, 0));
        due.no("alike() with another first sign", x.alike(0, 3));
        due.no("alike() with another last sign", x.alike(0, 4));
        due.yes("alike() of empty texts", x.alike(6, 7));
    }

    @Says(promise = 0, value = "BLANK are the signs 9 to 13 and 28 to 32.")
    static void blankAreThese10SignsAndNoOthers(Due due) {
        for (int sign = 0; sign < 128; sign++) {
            boolean blank = sign >= 9 && sign <= 13 || sign >= 28 && sign <= 32;
            TextShelves x = new TextShelves();
            x.type(0, sign);
            due.is("isBlank() of " + sign, x.isBlank(0) ? 1 : 0, blank ? 1 : 0);
            due.is("strip() of " + sign, x.strip(0, 1), blank ? 0 : 1);
        }
    }

    // ---- refusals and asks

    @Says(promise = 0, value = "UNFIT, a number is not as told")
    static void aNumberThatIsNotAsToldIsUnfit(Due due) {
        Twins twins = new Twins(due, "abc", "");
        for (int number : new int[] {MIN, -1, 128, MAX}) {
            twins.refuse("type(0, " + number + ")", TextShelves.UNFIT, x -> x.type(0, number));
            twins.refuse("feed(0, 0, " + number + ")", TextShelves.UNFIT, x -> x.feed(0, 0, number));
            twins.refuse("replaceSign(0, " + number + ", ..)", TextShelves.UNFIT,
                x -> x.replaceSign(0, number, 'a', 0));
            twins.refuse("replaceSign(0, .., " + number + ", 0)", TextShelves.UNFIT,
                x -> x.replaceSign(0, 'a', number, 0));
            twins.refuse("part(0, " + number + ", 0)", TextShelves.UNFIT, x -> x.part(0, number, 0));
            twins.refuse("join(" + number + ", 0)", TextShelves.UNFIT, x -> x.join(number, 0));
        }
        twins.refuse("replaceText(0, 1, 0, 0)", TextShelves.UNFIT, x -> x.replaceText(0, 1, 0, 0));
        twins.refuse("count(0, 1)", TextShelves.UNFIT, x -> x.count(0, 1));
    }

    private static boolean libraryRefuses(Runnable call) {
        try {
            call.run();
            return false;
        } catch (IndexOutOfBoundsException | IllegalArgumentException refused) {
            return true;
        }
    }

    @Says(promise = 0, value = "BEYOND, a place is one that the library would refuse")
    static void aPlaceThatTheLibraryRefusesIsBeyond(Due due) {
        for (String text : new String[] {"", "a", "abc", Due.letters(300)}) {
            for (int from : startsAround(text.length())) {
                String told = "(0, " + from + ") of " + text.length() + " signs";
                boolean noSign = libraryRefuses(() -> text.charAt(from));
                due.is("charAt" + told, Due.with(text).charAt(0, from) == TextShelves.BEYOND ? 1 : 0, noSign ? 1 : 0);
                boolean noTail = libraryRefuses(() -> text.substring(from));
                due.is("tail" + told, Due.with(text).tail(0, from, 1) == TextShelves.BEYOND ? 1 : 0, noTail ? 1 : 0);
                for (int until : startsAround(text.length())) {
                    boolean none = libraryRefuses(() -> text.substring(from, until));
                    int got = Due.with(text).substring(0, from, until, 1);
                    due.is("substring" + told + " until " + until, got == TextShelves.BEYOND ? 1 : 0, none ? 1 : 0);
                }
            }
        }
    }

    @Says(promise = 0, value = "BAD, a number is one that it would refuse")
    static void aNumberThatTheLibraryRefusesIsBad(Due due) {
        for (String text : new String[] {"", "a", "abc"}) {
            for (int times : new int[] {MIN, MIN + 1, -300, -2, -1, 0, 1, 2}) {
                boolean bad = libraryRefuses(() -> text.repeat(times));
                int got = Due.with(text).repeat(0, times, 1);
                due.is("repeat(0, " + times + ", 1) of " + text.length() + " signs",
                    got == TextShelves.BAD ? 1 : 0, bad ? 1 : 0);
            }
        }
    }

    @Says(promise = 0, value = "FULL, a text would have more than 300 signs")
    static void noCallLeavesMoreThan300Signs(Due due) {
        Twins full = new Twins(due, Due.letters(300), "a", "bb");
        full.refuse("type(0, 'a')", TextShelves.FULL, x -> x.type(0, 'a'));
        full.refuse("feed(0, 'a', 1)", TextShelves.FULL, x -> x.feed(0, 'a', 1));
        full.refuse("concat(0, 1, 3)", TextShelves.FULL, x -> x.concat(0, 1, 3));
        full.refuse("replaceText(0, 1, 2, 3)", TextShelves.FULL, x -> x.replaceText(0, 1, 2, 3));
        full.refuse("repeat(0, 2, 3)", TextShelves.FULL, x -> x.repeat(0, 2, 3));
    }

    @Says(promise = 0, value = "Of several that apply the first one in this order is answered.")
    static void unfitIsAnsweredAheadOfFull(Due due) {
        Twins full = new Twins(due, Due.letters(300));
        full.refuse("type(0, 128)", TextShelves.UNFIT, x -> x.type(0, 128));
        full.refuse("type(0, -1)", TextShelves.UNFIT, x -> x.type(0, -1));
        full.refuse("feed(0, 'a', 9)", TextShelves.UNFIT, x -> x.feed(0, 'a', 9));
        full.refuse("feed(0, 'a', 0)", TextShelves.UNFIT, x -> x.feed(0, 'a', 0));
        full.refuse("feed(0, 128, 1)", TextShelves.UNFIT, x -> x.feed(0, 128, 1));
        full.refuse("replaceText(0, 1, 0, 2)", TextShelves.UNFIT, x -> x.replaceText(0, 1, 0, 2));
    }

    @Says(promise = 0, value = "What is refused changes nothing.")
    static void whatIsRefusedChangesNoText(Due due) {
        Twins twins = new Twins(due, "abc", "", "de");
        twins.refuse("type(0, 128)", TextShelves.UNFIT, x -> x.type(0, 128));
        twins.refuse("feed(0, 0x8061L, 2)", TextShelves.UNFIT, x -> x.feed(0, 0x8061L, 2));
        twins.refuse("substring(0, 2, 4, 2)", TextShelves.BEYOND, x -> x.substring(0, 2, 4, 2));
        twins.refuse("tail(0, 4, 2)", TextShelves.BEYOND, x -> x.tail(0, 4, 2));
        twins.refuse("charAt(0, 3)", TextShelves.BEYOND, x -> x.charAt(0, 3));
        twins.refuse("replaceSign(0, 'a', 128, 2)", TextShelves.UNFIT, x -> x.replaceSign(0, 'a', 128, 2));
        twins.refuse("replaceText(0, 1, 2, 2)", TextShelves.UNFIT, x -> x.replaceText(0, 1, 2, 2));
        twins.refuse("repeat(0, -1, 2)", TextShelves.BAD, x -> x.repeat(0, -1, 2));
        twins.refuse("repeat(0, 101, 2)", TextShelves.FULL, x -> x.repeat(0, 101, 2));
        twins.refuse("part(0, '.', -1)", TextShelves.UNFIT, x -> x.part(0, '.', -1));
        twins.refuse("piece(99, 2)", TextShelves.BEYOND, x -> x.piece(99, 2));
        twins.refuse("join(128, 2)", TextShelves.UNFIT, x -> x.join(128, 2));
        twins.refuse("count(0, 1)", TextShelves.UNFIT, x -> x.count(0, 1));
    }

    @Says(promise = 0, value = "To ask changes nothing.")
    static void toAskChangesNothing(Due due) {
        Twins twins = new Twins(due, "ab,ab", "ab", "", "AB", Due.letters(300));
        int[][] pairs = {{0, 1}, {1, 0}, {0, 2}, {2, 2}, {0, 0}, {3, 1}, {4, 4}, {4, 2}};
        Calls.ASKING.forEach((name, call) -> {
            for (int[] pair : pairs) {
                String which = name + " of shelves " + pair[0] + " and " + pair[1];
                twins.ask(which, x -> call.of(x, pair[0], pair[1], 3, 3));
            }
        });
    }

    // ---- a shelf TO

    /** Lays the text on another shelf, too: there no shelf is read. */
    private static void laysAlike(Due due, String name, Calls.Call call, TextShelves x, int to) {
        TextShelves apart = eightTextsAndPieces();
        long signs = call.of(apart, 1, 2, 3, 6);
        String which = name + " to " + to;
        due.is(which, call.of(x, 1, 2, 3, to), signs);
        due.is(which + ", then length()", x.length(to), signs);
        due.is(which + ", then hash()", x.hash(to), apart.hash(6));
        for (int shelf = 0; shelf < 8; shelf++) {
            if (shelf != to) {
                due.text(which, x, shelf, EIGHT[shelf]);
            }
        }
    }

    @Says(promise = 0, value = "A call that is told a shelf TO lays the text that it makes there, in place of the one"
        + " that is there, and returns how many signs it has.")
    static void aLaidTextTakesThePlaceOfAFullOne(Due due) {
        Calls.LAYING.forEach((name, call) -> {
            TextShelves x = eightTextsAndPieces();
            x.repeat(6, 300, 5);
            laysAlike(due, name, call, x, 5);
        });
    }

    @Says(promise = 0, value = "A call that is told a shelf TO lays the text that it makes there, in place of the one"
        + " that is there, and returns how many signs it has.")
    static void aLaidTextTakesThePlaceOfAnEmptyOne(Due due) {
        Calls.LAYING.forEach((name, call) -> {
            TextShelves x = eightTextsAndPieces();
            x.wipe(5);
            laysAlike(due, name, call, x, 5);
        });
    }

    @Says(promise = 0, value = "TO can be a shelf from which the call reads; it reads ahead of that.")
    static void toCanBeAnyShelfThatIsRead(Due due) {
        Calls.LAYING.forEach((name, call) -> {
            for (int to = 1; to <= 3; to++) {
                laysAlike(due, name, call, eightTextsAndPieces(), to);
            }
        });
    }

    @Says(promise = 0, value = "TO can be a shelf from which the call reads; it reads ahead of that.")
    static void allShelvesToldCanBeOne(Due due) {
        Calls.LAYING.forEach((name, call) -> {
            TextShelves x = eightTextsAndPieces();
            TextShelves apart = eightTextsAndPieces();
            due.is(name + " all on one shelf", call.of(x, 3, 3, 3, 3), call.of(apart, 3, 3, 3, 6));
            due.is(name + " all on one shelf, then hash()", x.hash(3), apart.hash(6));
        });
    }

    // ---- the constants

    @Says(promise = 0, value = "`NONE = -1`: There is no such place.")
    static void noneIsMinus1(Due due) {
        due.is("NONE", TextShelves.NONE, -1);
    }

    @Says(promise = 0, value = "`UNFIT = -1000001, BEYOND = -1000002, BAD = -1000003, FULL = -1000004`")
    static void refusalsAreTheseNumbers(Due due) {
        due.is("UNFIT", TextShelves.UNFIT, -1000001);
        due.is("BEYOND", TextShelves.BEYOND, -1000002);
        due.is("BAD", TextShelves.BAD, -1000003);
        due.is("FULL", TextShelves.FULL, -1000004);
    }
}
