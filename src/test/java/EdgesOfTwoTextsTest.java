/** Promises 21 to 34: each sentence that names an edge, at that edge. */
public final class EdgesOfTwoTextsTest {
    private static final int MIN = Integer.MIN_VALUE;
    private static final int MAX = Integer.MAX_VALUE;
    private static final int NONE = TextShelves.NONE;
    private static final String LONG_TEXT = Due.letters(300);

    public static void main(String[] args) throws ReflectiveOperationException {
        Edges.run(EdgesOfTwoTextsTest.class);
    }

    private static void is(Due due, String call, boolean got, boolean want) {
        due.is(call, got ? 1 : 0, want ? 1 : 0);
    }

    // ---- find and findFrom

    @Says(promise = 21, value = "Returns the first place in the text of a shelf at which all of the text of another"
        + " one stands.")
    static void findNeedsAllOfTheOtherText(Due due) {
        TextShelves x = Due.with("aabaab", "aab", "aabx", "aabaaba", "xaab");
        due.is("find() of aab", x.find(0, 1), 0);
        due.is("find() of a beginning that goes on otherwise", x.find(0, 2), NONE);
        due.is("find() of a text longer by one", x.find(0, 3), NONE);
        due.is("find() of an end behind another sign", x.find(0, 4), NONE);
        due.is("find() of itself", x.find(0, 0), 0);
    }

    @Says(promise = 21, value = "an empty text stands at each place, and behind the last sign")
    static void anEmptyTextIsFoundAtEachPlaceAndBehindTheLastSign(Due due) {
        TextShelves x = Due.with(LONG_TEXT, "", "abc");
        for (int place = 0; place <= 300; place += 50) {
            due.is("findFrom(0, 1, " + place + ")", x.findFrom(0, 1, place), place);
            due.is("findLastFrom(0, 1, " + place + ")", x.findLastFrom(0, 1, place), place);
            due.yes("startsAt(0, 1, " + place + ")", x.startsAt(0, 1, place));
        }
        due.is("find(2, 1)", x.find(2, 1), 0);
        due.is("findFrom(2, 1, 2)", x.findFrom(2, 1, 2), 2);
        due.is("findFrom(2, 1, 3)", x.findFrom(2, 1, 3), 3);
        due.is("findLast(2, 1)", x.findLast(2, 1), 3);
        due.no("startsAt(2, 1, 4)", x.startsAt(2, 1, 4));
    }

    @Says(promise = 21, value = "Returns the place; NONE; an empty text stands at each place, and behind the last"
        + " sign.")
    static void findInAnEmptyText(Due due) {
        TextShelves x = Due.with("", "a", "");
        due.is("find() of one sign in none", x.find(0, 1), NONE);
        due.is("find() of none in none", x.find(0, 2), 0);
        due.is("find() of none in itself", x.find(0, 0), 0);
    }

    @Says(promise = 21, value = "Returns the first place in the text of a shelf at which all of the text of another"
        + " one stands.")
    static void findAtTheEndOfAFullText(Due due) {
        TextShelves x = Due.with("a".repeat(299) + "b", "b", "ab", "a".repeat(299) + "b", "a".repeat(300));
        due.is("find() of the last sign", x.find(0, 1), 299);
        due.is("find() of the last two signs", x.find(0, 2), 298);
        due.is("find() of all 300 signs", x.find(0, 3), 0);
        due.is("find() of 300 other signs", x.find(0, 4), NONE);
    }

    @Says(promise = 22, value = "below 0 it counts as 0")
    static void findFromBelow0IsFindFrom0(Due due) {
        TextShelves x = Due.with("abcab", "ab", "", "b");
        for (int from : new int[] {MIN, MIN + 1, -300, -2, -1, 0}) {
            due.is("findFrom(0, 1, " + from + ")", x.findFrom(0, 1, from), 0);
            due.is("findFrom(0, 2, " + from + ")", x.findFrom(0, 2, from), 0);
            due.is("findFrom(0, 3, " + from + ")", x.findFrom(0, 3, from), 1);
            due.is("findFrom(2, 1, " + from + ")", x.findFrom(2, 1, from), NONE);
            due.is("findFrom(2, 2, " + from + ")", x.findFrom(2, 2, from), 0);
        }
    }

    @Says(promise = 22, value = "above the length of the first text as that")
    static void findFromAboveTheLengthIsFindFromTheLength(Due due) {
        TextShelves x = Due.with("abcab", "ab", "", LONG_TEXT);
        for (int from : new int[] {5, 6, 300, 301, MAX - 1, MAX}) {
            due.is("findFrom(0, 1, " + from + ")", x.findFrom(0, 1, from), NONE);
            due.is("findFrom(0, 2, " + from + ")", x.findFrom(0, 2, from), 5);
            due.is("findFrom(2, 2, " + from + ")", x.findFrom(2, 2, from), 0);
            due.is("findFrom(3, 2, " + from + ")", x.findFrom(3, 2, from), Math.min(300, from));
        }
    }

    @Says(promise = 22, value = "Returns the first such place that is no less than a start.")
    static void findFromIsAtTheStartAtTheLeast(Due due) {
        TextShelves x = Due.with("abcab", "ab");
        due.is("findFrom(0, 1, 1)", x.findFrom(0, 1, 1), 3);
        due.is("findFrom(0, 1, 3)", x.findFrom(0, 1, 3), 3);
        due.is("findFrom(0, 1, 4)", x.findFrom(0, 1, 4), NONE);
    }

    // ---- findLast and findLastFrom

    @Says(promise = 23, value = "Returns the last such place.")
    static void findLastOfAnEmptyTextIsTheLength(Due due) {
        TextShelves x = Due.with("", "abc", LONG_TEXT);
        due.is("findLast() of none in none", x.findLast(0, 0), 0);
        due.is("findLast() of none in three", x.findLast(1, 0), 3);
        due.is("findLast() of none in 300", x.findLast(2, 0), 300);
    }

    @Says(promise = 23, value = "Returns the place; NONE.")
    static void findLastAtBothEnds(Due due) {
        TextShelves x = Due.with("abcab", "ab", "cab", "abc", "abcabc", "abcab", "");
        due.is("findLast() at the end", x.findLast(0, 1), 3);
        due.is("findLast() of an end", x.findLast(0, 2), 2);
        due.is("findLast() at the beginning", x.findLast(0, 3), 0);
        due.is("findLast() of a text longer by one", x.findLast(0, 4), NONE);
        due.is("findLast() of the same", x.findLast(0, 5), 0);
        due.is("findLast() in an empty text", x.findLast(6, 1), NONE);
    }

    @Says(promise = 23, value = "Returns the last such place.")
    static void findLastInAFullText(Due due) {
        TextShelves x = Due.with("a".repeat(300), "a", "a".repeat(299), "b" + "a".repeat(299), "b");
        due.is("findLast() of one of 300", x.findLast(0, 1), 299);
        due.is("findLast() of 299 of 300", x.findLast(0, 2), 1);
        due.is("findLast() of 300 of 300", x.findLast(0, 0), 0);
        due.is("findLast() of the first sign", x.findLast(3, 4), 0);
        due.is("findLast() of 300 other signs", x.findLast(0, 3), NONE);
    }

    @Says(promise = 24, value = "`from`: any int; below 0 there is no place")
    static void findLastFromBelow0IsNone(Due due) {
        TextShelves x = Due.with("abcab", "ab", "");
        for (int from : new int[] {MIN, MIN + 1, -300, -2, -1}) {
            due.is("findLastFrom(0, 1, " + from + ")", x.findLastFrom(0, 1, from), NONE);
            due.is("findLastFrom(0, 2, " + from + ")", x.findLastFrom(0, 2, from), NONE);
            due.is("findLastFrom(2, 2, " + from + ")", x.findLastFrom(2, 2, from), NONE);
        }
        due.is("findLastFrom(0, 1, 0)", x.findLastFrom(0, 1, 0), 0);
        due.is("findLastFrom(0, 2, 0)", x.findLastFrom(0, 2, 0), 0);
        due.is("findLastFrom(2, 2, 0)", x.findLastFrom(2, 2, 0), 0);
    }

    @Says(promise = 24, value = "Returns the last such place that is no more than a start.")
    static void findLastFromIsAtTheStartAtTheMost(Due due) {
        TextShelves x = Due.with("abcab", "ab", "bcab");
        due.is("findLastFrom(0, 1, 2)", x.findLastFrom(0, 1, 2), 0);
        due.is("findLastFrom(0, 1, 3)", x.findLastFrom(0, 1, 3), 3);
        due.is("findLastFrom(0, 1, 4)", x.findLastFrom(0, 1, 4), 3);
        due.is("findLastFrom(0, 2, 0)", x.findLastFrom(0, 2, 0), NONE);
        due.is("findLastFrom(0, 2, 1)", x.findLastFrom(0, 2, 1), 1);
    }

    @Says(promise = 24, value = "`from`: any int")
    static void findLastFromTheLengthAndAboveIsFindLast(Due due) {
        TextShelves x = Due.with("abcab", "ab", "", LONG_TEXT);
        for (int from : new int[] {5, 6, 300, 301, MAX - 1, MAX}) {
            due.is("findLastFrom(0, 1, " + from + ")", x.findLastFrom(0, 1, from), 3);
            due.is("findLastFrom(0, 2, " + from + ")", x.findLastFrom(0, 2, from), 5);
            due.is("findLastFrom(2, 1, " + from + ")", x.findLastFrom(2, 1, from), NONE);
            due.is("findLastFrom(3, 2, " + from + ")", x.findLastFrom(3, 2, from), Math.min(300, from));
        }
    }

    // ---- contains, starts, startsAt, ends

    @Says(promise = 25, value = "Tells whether there is such a place.")
    static void containsEmptySameAndLongerTexts(Due due) {
        TextShelves x = Due.with("abc", "", "abcd", "c", "a", "C", LONG_TEXT, LONG_TEXT.substring(1));
        due.yes("contains() of none", x.contains(0, 1));
        due.yes("contains() of none in none", x.contains(1, 1));
        due.yes("contains() of itself", x.contains(0, 0));
        due.no("contains() of a text longer by one", x.contains(0, 2));
        due.yes("contains() of the last sign", x.contains(0, 3));
        due.yes("contains() of the first sign", x.contains(0, 4));
        due.no("contains() of another case", x.contains(0, 5));
        due.no("contains() of one in none", x.contains(1, 4));
        due.yes("contains() of 300 in 300", x.contains(6, 6));
        due.yes("contains() of the last 299 in 300", x.contains(6, 7));
        due.no("contains() of 300 in 299", x.contains(7, 6));
    }

    @Says(promise = 26, value = "Tells whether a text begins with that of another shelf.")
    static void startsWithEmptySameAndLongerTexts(Due due) {
        TextShelves x = Due.with("abc", "", "abcd", "b", "ab", "aB", LONG_TEXT, LONG_TEXT.substring(0, 299) + "Z");
        due.yes("starts() with none", x.starts(0, 1));
        due.yes("starts() of none with none", x.starts(1, 1));
        due.yes("starts() with itself", x.starts(0, 0));
        due.no("starts() with a text longer by one", x.starts(0, 2));
        due.no("starts() with what stands behind", x.starts(0, 3));
        due.yes("starts() with all but the last", x.starts(0, 4));
        due.no("starts() with another case", x.starts(0, 5));
        due.no("starts() of none with one", x.starts(1, 3));
        due.yes("starts() of 300 with the same", x.starts(6, 6));
        due.no("starts() of 300 with another last one", x.starts(6, 7));
    }

    @Says(promise = 27, value = "told by any int; never below 0")
    static void startsAtBelow0IsNever(Due due) {
        TextShelves x = Due.with("abcab", "ab", "", "b");
        for (int place : new int[] {MIN, MIN + 1, -300, -2, -1}) {
            due.no("startsAt(0, 1, " + place + ")", x.startsAt(0, 1, place));
            due.no("startsAt(0, 2, " + place + ")", x.startsAt(0, 2, place));
            due.no("startsAt(2, 2, " + place + ")", x.startsAt(2, 2, place));
            due.no("startsAt(0, 3, " + place + ")", x.startsAt(0, 3, place));
        }
        due.yes("startsAt(0, 1, 0)", x.startsAt(0, 1, 0));
        due.yes("startsAt(0, 2, 0)", x.startsAt(0, 2, 0));
        due.yes("startsAt(2, 2, 0)", x.startsAt(2, 2, 0));
    }

    @Says(promise = 27, value = "Tells whether all of the text of another shelf stands at a place")
    static void startsAtTheLastPlaceForAllOfTheOther(Due due) {
        TextShelves x = Due.with("abcab", "ab", "", "abc", "b");
        due.yes("startsAt(0, 1, 3)", x.startsAt(0, 1, 3));
        due.no("startsAt(0, 1, 4)", x.startsAt(0, 1, 4));
        due.no("startsAt(0, 3, 3)", x.startsAt(0, 3, 3));
        due.yes("startsAt(0, 4, 4)", x.startsAt(0, 4, 4));
        due.no("startsAt(0, 4, 5)", x.startsAt(0, 4, 5));
        due.yes("startsAt(0, 2, 5)", x.startsAt(0, 2, 5));
        due.no("startsAt(0, 2, 6)", x.startsAt(0, 2, 6));
        due.no("startsAt(2, 2, 1)", x.startsAt(2, 2, 1));
    }

    @Says(promise = 27, value = "told by any int; never below 0")
    static void startsAtTheGreatestIntIsNever(Due due) {
        TextShelves x = Due.with("abcab", "ab", "", LONG_TEXT);
        for (int place : new int[] {300, 301, MAX - 300, MAX - 2, MAX - 1, MAX}) {
            due.no("startsAt(0, 1, " + place + ")", x.startsAt(0, 1, place));
            due.no("startsAt(0, 2, " + place + ")", x.startsAt(0, 2, place));
            due.no("startsAt(3, 3, " + place + ")", x.startsAt(3, 3, place));
            is(due, "startsAt(3, 2, " + place + ")", x.startsAt(3, 2, place), place == 300);
        }
    }

    @Says(promise = 28, value = "Tells whether a text ends with that of another shelf.")
    static void endsWithEmptySameAndLongerTexts(Due due) {
        TextShelves x = Due.with("abc", "", "xabc", "b", "bc", "bC", LONG_TEXT, "Z" + LONG_TEXT.substring(1));
        due.yes("ends() with none", x.ends(0, 1));
        due.yes("ends() of none with none", x.ends(1, 1));
        due.yes("ends() with itself", x.ends(0, 0));
        due.no("ends() with a text longer by one", x.ends(0, 2));
        due.no("ends() with what stands ahead", x.ends(0, 3));
        due.yes("ends() with all but the first", x.ends(0, 4));
        due.no("ends() with another case", x.ends(0, 5));
        due.no("ends() of none with one", x.ends(1, 3));
        due.yes("ends() of 300 with the same", x.ends(6, 6));
        due.no("ends() of 300 with another first one", x.ends(6, 7));
    }

    // ---- region and regionAlike

    /** On the shelves 0 and 1, which have no other signs at any place, but another case. */
    private static TextShelves twoCases() {
        return Due.with("abcdef", "ABCDE", "abcde", "", "");
    }

    /** The texts have the same signs from a place on, so that only the edges tell. */
    private static void regions(Due due, boolean want, int place, int otherPlace, int n) {
        TextShelves x = twoCases();
        String told = "(0, " + place + ", 1 or 2, " + otherPlace + ", " + n + ")";
        is(due, "region" + told, x.region(0, place, 2, otherPlace, n), want);
        is(due, "regionAlike" + told, x.regionAlike(0, place, 1, otherPlace, n), want);
    }

    private static void regionsOfEmptyTexts(Due due, boolean want, int place, int otherPlace, int n) {
        TextShelves x = twoCases();
        String told = "(3, " + place + ", 4, " + otherPlace + ", " + n + ")";
        is(due, "region" + told, x.region(3, place, 4, otherPlace, n), want);
        is(due, "regionAlike" + told, x.regionAlike(3, place, 4, otherPlace, n), want);
    }

    @Says(promise = 29, value = "Returns false, if place or otherPlace is below 0")
    static void regionWithAPlaceBelow0IsFalse(Due due) {
        regions(due, true, 0, 0, 0);
        for (int n : new int[] {MIN, -300, -1, 0, 1, MAX}) {
            regions(due, false, -1, 0, n);
            regions(due, false, MIN, 0, n);
            regionsOfEmptyTexts(due, false, -1, 0, n);
        }
    }

    @Says(promise = 29, value = "Returns false, if place or otherPlace is below 0")
    static void regionWithAnOtherPlaceBelow0IsFalse(Due due) {
        for (int n : new int[] {MIN, -300, -1, 0, 1, MAX}) {
            regions(due, false, 0, -1, n);
            regions(due, false, 0, MIN, n);
            regions(due, false, -1, -1, n);
            regions(due, false, MIN, MIN, n);
            regionsOfEmptyTexts(due, false, 0, -1, n);
        }
    }

    @Says(promise = 29, value = "if place and n, together, are more than the length of the first text")
    static void regionUpToTheLengthOfTheFirstText(Due due) {
        regions(due, true, 0, 0, 5);
        regions(due, true, 2, 2, 3);
        regions(due, true, 6, 0, 0);
        regions(due, false, 7, 0, 0);
        TextShelves x = Due.with("abc", "cdef", "ab");
        due.yes("region(0, 2, 1, 0, 1)", x.region(0, 2, 1, 0, 1));
        due.no("region(0, 2, 1, 0, 2)", x.region(0, 2, 1, 0, 2));
        due.no("regionAlike(0, 2, 1, 0, 2)", x.regionAlike(0, 2, 1, 0, 2));
        due.no("region(2, 0, 0, 0, 3)", x.region(2, 0, 0, 0, 3));
    }

    @Says(promise = 29, value = "if otherPlace and n, together, are more than that of the other one")
    static void regionUpToTheLengthOfTheOtherText(Due due) {
        regions(due, false, 0, 0, 6);
        regions(due, false, 2, 2, 4);
        regions(due, true, 0, 5, 0);
        regions(due, false, 0, 6, 0);
        TextShelves x = Due.with("cdef", "abc", "ab");
        due.yes("region(0, 0, 1, 2, 1)", x.region(0, 0, 1, 2, 1));
        due.no("region(0, 0, 1, 2, 2)", x.region(0, 0, 1, 2, 2));
        due.no("regionAlike(0, 0, 1, 2, 2)", x.regionAlike(0, 0, 1, 2, 2));
        due.no("region(1, 0, 2, 0, 3)", x.region(1, 0, 2, 0, 3));
    }

    @Says(promise = 29, value = "sums being whole numbers that do not wrap")
    static void regionWithSumsAboveTheGreatestIntIsFalse(Due due) {
        regions(due, false, 0, 0, MAX);
        regions(due, false, 1, 1, MAX);
        regions(due, false, 1, 0, MAX);
        regions(due, false, 0, 1, MAX);
        regions(due, false, MAX, 0, 1);
        regions(due, false, 0, MAX, 1);
        regions(due, false, MAX, MAX, 1);
        regions(due, false, MAX, MAX, MAX);
        regions(due, false, MAX, 0, 0);
        regions(due, false, 0, MAX, 0);
        regionsOfEmptyTexts(due, false, 1, 1, MAX);
        regionsOfEmptyTexts(due, false, MAX, MAX, MAX);
    }

    @Says(promise = 29, value = "`n`: any int; below 0 no signs are asked")
    static void regionOfFewerThan0SignsAsksNone(Due due) {
        TextShelves x = Due.with("abc", "xyz");
        for (int n : new int[] {-1, -2, -3, -300, MIN + 1, MIN}) {
            due.yes("region(0, 0, 1, 0, " + n + ")", x.region(0, 0, 1, 0, n));
            due.yes("regionAlike(0, 0, 1, 0, " + n + ")", x.regionAlike(0, 0, 1, 0, n));
            due.yes("region(0, 3, 1, 3, " + n + ")", x.region(0, 3, 1, 3, n));
            regionsOfEmptyTexts(due, true, 0, 0, n);
        }
        due.yes("region(0, 0, 1, 0, 0)", x.region(0, 0, 1, 0, 0));
        due.no("region(0, 0, 1, 0, 1)", x.region(0, 0, 1, 0, 1));
    }

    @Says(promise = 29, value = "if place and n, together, are more than the length of the first text, if otherPlace"
        + " and n, together, are more than that of the other one")
    static void regionOfFewerThan0SignsAsksTheSums(Due due) {
        regions(due, true, 7, 6, -1);
        regions(due, false, 8, 6, -1);
        regions(due, false, 7, 7, -1);
        regions(due, true, 106, 105, -100);
        regions(due, false, 107, 105, -100);
        regions(due, false, 106, 106, -100);
        regions(due, true, MAX, MAX, MIN);
        regions(due, true, MAX, 0, MIN);
        regions(due, true, MAX, MAX, MIN + 6);
        regions(due, false, MAX, MAX, MIN + 7);
        regionsOfEmptyTexts(due, true, 1, 1, -1);
        regionsOfEmptyTexts(due, false, 2, 1, -1);
        regionsOfEmptyTexts(due, false, 1, 2, -1);
    }

    @Says(promise = 29, value = "or if signs differ; true otherwise")
    static void regionLooksAtTheFirstAndTheLastSignOnly(Due due) {
        TextShelves x = Due.with("xabcy", "zabcw", LONG_TEXT, LONG_TEXT.substring(0, 299) + "Z");
        due.yes("region(0, 1, 1, 1, 3)", x.region(0, 1, 1, 1, 3));
        due.no("region(0, 0, 1, 0, 4)", x.region(0, 0, 1, 0, 4));
        due.no("region(0, 1, 1, 1, 4)", x.region(0, 1, 1, 1, 4));
        due.yes("region(2, 0, 2, 0, 300)", x.region(2, 0, 2, 0, 300));
        due.no("region(2, 0, 2, 0, 301)", x.region(2, 0, 2, 0, 301));
        due.yes("region(2, 0, 3, 0, 299)", x.region(2, 0, 3, 0, 299));
        due.no("region(2, 0, 3, 0, 300)", x.region(2, 0, 3, 0, 300));
        due.no("regionAlike(2, 0, 3, 0, 300)", x.regionAlike(2, 0, 3, 0, 300));
    }

    @Says(promise = 29, value = "Tells whether n signs of a text from a place on, and n signs of the text of another"
        + " shelf from a place on, are the same.")
    static void regionOfAnotherCaseIsNotTheSame(Due due) {
        TextShelves x = twoCases();
        due.no("region(0, 0, 1, 0, 1)", x.region(0, 0, 1, 0, 1));
        due.yes("region(0, 0, 2, 0, 1)", x.region(0, 0, 2, 0, 1));
    }

    @Says(promise = 30, value = "Tells the same, but whether the signs are ALIKE.")
    static void regionAlikeOfSignsAtTheEdgesOfTheLetters(Due due) {
        TextShelves x = Due.with("@AZ[`az{", "`az{@AZ[", "@az[`AZ{");
        for (int place = 0; place < 8; place++) {
            boolean letter = place % 4 == 1 || place % 4 == 2;
            is(due, "regionAlike(0, " + place + ", 1, ..)", x.regionAlike(0, place, 1, place, 1), letter);
        }
        due.yes("regionAlike(0, 0, 2, 0, 8)", x.regionAlike(0, 0, 2, 0, 8));
        due.no("regionAlike(0, 0, 1, 0, 8)", x.regionAlike(0, 0, 1, 0, 8));
    }

    // ---- same and alike

    @Says(promise = 31, value = "Tells whether two texts are the same.")
    static void sameOfEmptyFullAndUnlikeTexts(Due due) {
        TextShelves x = Due.with("", "\0", LONG_TEXT, LONG_TEXT, LONG_TEXT.substring(0, 299),
            "Z" + LONG_TEXT.substring(1), LONG_TEXT.substring(0, 299) + "Z", "");
        due.yes("same() of empty texts", x.same(0, 7));
        due.yes("same() of one shelf", x.same(2, 2));
        due.no("same() of none and the sign 0", x.same(0, 1));
        due.no("same() of the sign 0 and none", x.same(1, 0));
        due.yes("same() of 300 signs", x.same(2, 3));
        due.no("same() of 300 and the first 299", x.same(2, 4));
        due.no("same() of the first 299 and 300", x.same(4, 2));
        due.no("same() with another first sign", x.same(2, 5));
        due.no("same() with another last sign", x.same(2, 6));
    }

    @Says(promise = 31, value = "Tells whether two texts are the same.")
    static void sameOfAnotherCaseIsNotTheSame(Due due) {
        TextShelves x = Due.with("abc", "abC", "Abc");
        due.no("same() of abc and abC", x.same(0, 1));
        due.no("same() of abc and Abc", x.same(0, 2));
    }

    @Says(promise = 32, value = "Tells whether two texts are ALIKE.")
    static void alikeOfEmptyFullAndUnlikeTexts(Due due) {
        TextShelves x = Due.with("", " ", "aZ".repeat(150), "Az".repeat(150), "Az".repeat(149) + "A",
            "Bz" + "Az".repeat(149), "Az".repeat(149) + "Ay", "");
        due.yes("alike() of empty texts", x.alike(0, 7));
        due.yes("alike() of one shelf", x.alike(2, 2));
        due.no("alike() of none and a blank", x.alike(0, 1));
        due.no("alike() of a blank and none", x.alike(1, 0));
        due.yes("alike() of 300 signs", x.alike(2, 3));
        due.no("alike() of 300 and the first 299", x.alike(2, 4));
        due.no("alike() of the first 299 and 300", x.alike(4, 2));
        due.no("alike() with another first sign", x.alike(2, 5));
        due.no("alike() with another last sign", x.alike(2, 6));
    }

    // ---- compare and compareAlike

    @Says(promise = 33, value = "Returns at the first place that both have, and at which they differ, the sign of the"
        + " first one less that of the other one")
    static void compareAtTheFirstPlaceThatDiffers(Due due) {
        TextShelves x = Due.with("azz", "baa", "\0", "\u007f", LONG_TEXT.substring(0, 299) + "\0",
            LONG_TEXT.substring(0, 299) + "\u007f");
        due.is("compare(0, 1)", x.compare(0, 1), -1);
        due.is("compare(1, 0)", x.compare(1, 0), 1);
        due.is("compare() of 0 and 127", x.compare(2, 3), -127);
        due.is("compare() of 127 and 0", x.compare(3, 2), 127);
        due.is("compare() at place 299", x.compare(4, 5), -127);
        due.is("compare() at place 299 from the other side", x.compare(5, 4), 127);
    }

    @Says(promise = 33, value = "without such a place the length of the first one less that of the other one")
    static void compareOfATextAndItsBeginning(Due due) {
        TextShelves x = Due.with("", LONG_TEXT, LONG_TEXT.substring(0, 299), "", LONG_TEXT);
        due.is("compare() of none and none", x.compare(0, 3), 0);
        due.is("compare() of none and 300", x.compare(0, 1), -300);
        due.is("compare() of 300 and none", x.compare(1, 0), 300);
        due.is("compare() of 300 and 299", x.compare(1, 2), 1);
        due.is("compare() of 299 and 300", x.compare(2, 1), -1);
        due.is("compare() of 300 and the same", x.compare(1, 4), 0);
        due.is("compare() of one shelf", x.compare(1, 1), 0);
    }

    @Says(promise = 34, value = "Returns -1, 0 or 1: the sign of what compare() would return then.")
    static void compareAlikeReturnsNoMoreThan1(Due due) {
        TextShelves x = Due.with("", LONG_TEXT, "\0", "\u007f", LONG_TEXT.substring(0, 299), "");
        due.is("compareAlike() of none and none", x.compareAlike(0, 5), 0);
        due.is("compareAlike() of none and 300", x.compareAlike(0, 1), -1);
        due.is("compareAlike() of 300 and none", x.compareAlike(1, 0), 1);
        due.is("compareAlike() of 300 and 299", x.compareAlike(1, 4), 1);
        due.is("compareAlike() of 299 and 300", x.compareAlike(4, 1), -1);
        due.is("compareAlike() of 0 and 127", x.compareAlike(2, 3), -1);
        due.is("compareAlike() of 127 and 0", x.compareAlike(3, 2), 1);
    }

    /** As if the capital one were the small one: the six signs between Z and a stand ahead of all letters. */
    @Says(promise = 34, value = "as if each capital letter were the small one")
    static void compareAlikeOfEachTwoSigns(Due due) {
        for (int sign = 0; sign < 128; sign++) {
            TextShelves x = new TextShelves();
            x.type(1, sign);
            for (int other = 0; other < 128; other++) {
                x.wipe(0);
                x.type(0, other);
                int want = Integer.compare(small(other), small(sign));
                due.is("compareAlike() of " + other + " and " + sign, x.compareAlike(0, 1), want);
            }
        }
    }

    private static int small(int sign) {
        return sign >= 'A' && sign <= 'Z' ? sign + 32 : sign;
    }
}
