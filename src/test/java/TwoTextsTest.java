/** Promises 21 to 34: what is asked of two texts. */
public final class TwoTextsTest {
    private static final Due DUE = new Due("TwoTextsTest");
    private static final int MIN = Integer.MIN_VALUE;
    private static final int MAX = Integer.MAX_VALUE;

    public static void main(String[] args) {
        find();
        findFrom();
        findLast();
        findLastFrom();
        contains();
        starts();
        startsAt();
        ends();
        region();
        regionEdges();
        regionAlike();
        same();
        alike();
        alikeSigns();
        compare();
        compareAlike();
        DUE.end();
    }

    private static void find() {
        TextShelves x = Due.with("abcabcab", "ca", "abcabcabc", "aab", "aaab", "");
        DUE.is("find ca", x.find(0, 1), 2);
        DUE.is("find itself", x.find(0, 8), 0);
        DUE.is("find a longer one", x.find(0, 2), -1);
        DUE.is("find after a false start", x.find(4, 3), 1);
        DUE.is("find the empty one", x.find(0, 5), 0);
        DUE.is("find the empty one in itself", x.find(5, 6), 0);
        DUE.is("find in the empty one", x.find(5, 1), -1);
        DUE.is("find what is not there", x.find(0, 3), -1);
    }

    private static void findFrom() {
        TextShelves x = Due.with("abcabcab", "ab", "");
        DUE.is("findFrom 0", x.findFrom(0, 1, 0), 0);
        DUE.is("findFrom 1", x.findFrom(0, 1, 1), 3);
        DUE.is("findFrom 3", x.findFrom(0, 1, 3), 3);
        DUE.is("findFrom 6", x.findFrom(0, 1, 6), 6);
        DUE.is("findFrom 7", x.findFrom(0, 1, 7), -1);
        DUE.is("findFrom -1", x.findFrom(0, 1, -1), 0);
        DUE.is("findFrom MIN", x.findFrom(0, 1, MIN), 0);
        DUE.is("findFrom MAX", x.findFrom(0, 1, MAX), -1);
        DUE.is("findFrom of the empty one", x.findFrom(0, 2, 5), 5);
        DUE.is("findFrom of the empty one at the end", x.findFrom(0, 2, 8), 8);
        DUE.is("findFrom of the empty one beyond", x.findFrom(0, 2, 9), 8);
        DUE.is("findFrom of the empty one, MAX", x.findFrom(0, 2, MAX), 8);
        DUE.is("findFrom of the empty one, MIN", x.findFrom(0, 2, MIN), 0);
        DUE.is("findFrom of the empty one in itself", x.findFrom(2, 2, 3), 0);
    }

    private static void findLast() {
        TextShelves x = Due.with("abcabcab", "ab", "bca", "", "abcabcabc", "f".repeat(300));
        DUE.is("findLast ab", x.findLast(0, 1), 6);
        DUE.is("findLast bca", x.findLast(0, 2), 4);
        DUE.is("findLast the empty one", x.findLast(0, 3), 8);
        DUE.is("findLast the empty one in itself", x.findLast(3, 3), 0);
        DUE.is("findLast the empty one in a full one", x.findLast(5, 3), 300);
        DUE.is("findLast a longer one", x.findLast(0, 4), -1);
        DUE.is("findLast in the empty one", x.findLast(3, 1), -1);
        DUE.is("findLast itself", x.findLast(0, -8), 0);
    }

    private static void findLastFrom() {
        TextShelves x = Due.with("abcabcab", "ab", "");
        DUE.is("findLastFrom 8", x.findLastFrom(0, 1, 8), 6);
        DUE.is("findLastFrom 6", x.findLastFrom(0, 1, 6), 6);
        DUE.is("findLastFrom 5", x.findLastFrom(0, 1, 5), 3);
        DUE.is("findLastFrom 2", x.findLastFrom(0, 1, 2), 0);
        DUE.is("findLastFrom 0", x.findLastFrom(0, 1, 0), 0);
        DUE.is("findLastFrom -1", x.findLastFrom(0, 1, -1), -1);
        DUE.is("findLastFrom MIN", x.findLastFrom(0, 1, MIN), -1);
        DUE.is("findLastFrom MAX", x.findLastFrom(0, 1, MAX), 6);
        DUE.is("findLastFrom of the empty one", x.findLastFrom(0, 2, 5), 5);
        DUE.is("findLastFrom of the empty one beyond", x.findLastFrom(0, 2, 9), 8);
        DUE.is("findLastFrom of the empty one, 0", x.findLastFrom(0, 2, 0), 0);
        DUE.is("findLastFrom of the empty one, -1", x.findLastFrom(0, 2, -1), -1);
    }

    private static void contains() {
        TextShelves x = Due.with("abcabcab", "cab", "cb", "", "abcabcaba");
        DUE.yes("contains cab", x.contains(0, 1));
        DUE.no("contains cb", x.contains(0, 2));
        DUE.yes("contains the empty one", x.contains(0, 3));
        DUE.yes("the empty one contains itself", x.contains(3, 3));
        DUE.no("contains a longer one", x.contains(0, 4));
        DUE.no("the empty one contains", x.contains(3, 0));
    }

    private static void starts() {
        TextShelves x = Due.with("abcab", "abc", "bc", "", "abcabc", "Abc");
        DUE.yes("starts with abc", x.starts(0, 1));
        DUE.yes("starts with itself", x.starts(0, 0));
        DUE.yes("starts with the empty one", x.starts(0, 3));
        DUE.yes("the empty one starts with itself", x.starts(3, 3));
        DUE.no("starts with bc", x.starts(0, 2));
        DUE.no("starts with a longer one", x.starts(0, 4));
        DUE.no("starts with Abc", x.starts(0, 5));
        DUE.no("the empty one starts with abc", x.starts(3, 1));
    }

    private static void startsAt() {
        TextShelves x = Due.with("abcab", "ab", "");
        DUE.yes("startsAt 0", x.startsAt(0, 1, 0));
        DUE.no("startsAt 1", x.startsAt(0, 1, 1));
        DUE.yes("startsAt 3", x.startsAt(0, 1, 3));
        DUE.no("startsAt 4", x.startsAt(0, 1, 4));
        DUE.no("startsAt -1", x.startsAt(0, 1, -1));
        DUE.no("startsAt MIN", x.startsAt(0, 1, MIN));
        DUE.no("startsAt MAX", x.startsAt(0, 1, MAX));
        DUE.yes("the empty one startsAt 5", x.startsAt(0, 2, 5));
        DUE.yes("the empty one startsAt 2", x.startsAt(0, 2, 2));
        DUE.no("the empty one startsAt 6", x.startsAt(0, 2, 6));
        DUE.no("the empty one startsAt -1", x.startsAt(0, 2, -1));
        DUE.no("the empty one startsAt MAX", x.startsAt(0, 2, MAX));
    }

    private static void ends() {
        TextShelves x = Due.with("abcab", "cab", "ca", "", "aabcab", "caB");
        DUE.yes("ends with cab", x.ends(0, 1));
        DUE.yes("ends with itself", x.ends(0, 8));
        DUE.yes("ends with the empty one", x.ends(0, 3));
        DUE.yes("the empty one ends with itself", x.ends(3, 3));
        DUE.no("ends with ca", x.ends(0, 2));
        DUE.no("ends with a longer one", x.ends(0, 4));
        DUE.no("ends with caB", x.ends(0, 5));
        DUE.no("the empty one ends with cab", x.ends(3, 1));
    }

    private static void region() {
        TextShelves x = Due.with("abcdef", "xcdey", "ABCDEF");
        DUE.yes("region of three", x.region(0, 2, 1, 1, 3));
        DUE.no("region of four", x.region(0, 2, 1, 1, 4));
        DUE.no("region that differs at once", x.region(0, 1, 1, 1, 3));
        DUE.no("region of another case", x.region(0, 0, 2, 0, 6));
        DUE.yes("region of itself", x.region(0, 0, 8, 0, 6));
        DUE.no("region beyond both", x.region(0, 0, 0, 0, 7));
        DUE.no("region beyond the first", x.region(0, 4, 1, 1, 3));
        DUE.no("region beyond the other", x.region(1, 1, 1, 3, 3));
    }

    private static void regionEdges() {
        TextShelves x = Due.with("abcdef", "xcdey");
        DUE.yes("region of none at the ends", x.region(0, 6, 1, 5, 0));
        DUE.no("region of none behind the first end", x.region(0, 7, 1, 5, 0));
        DUE.no("region of none behind the other end", x.region(0, 6, 1, 6, 0));
        DUE.yes("region of -1", x.region(0, 7, 1, 6, -1));
        DUE.no("region of -1 behind that", x.region(0, 8, 1, 0, -1));
        DUE.no("region of -1 behind that of the other", x.region(0, 0, 1, 7, -1));
        DUE.no("region from -1", x.region(0, -1, 1, 0, 0));
        DUE.no("region from -1 of the other", x.region(0, 0, 1, -1, 0));
        DUE.no("region from -1 of -5", x.region(0, -1, 1, 0, -5));
        DUE.no("region of MAX", x.region(0, 1, 1, 1, MAX));
        DUE.no("region from MAX of MAX", x.region(0, MAX, 1, MAX, MAX));
        DUE.no("region from MAX of 1", x.region(0, MAX, 1, 0, 1));
        DUE.no("region from MAX of the other of 1", x.region(0, 0, 1, MAX, 1));
        DUE.yes("region of MIN", x.region(0, 0, 1, 0, MIN));
        DUE.yes("region from MAX of MIN", x.region(0, MAX, 1, MAX, MIN));
        DUE.no("region from MIN of MIN", x.region(0, MIN, 1, 0, MIN));
    }

    private static void regionAlike() {
        TextShelves x = Due.with("aBcDef", "xCdEy", "xCd@y");
        DUE.yes("regionAlike of three", x.regionAlike(0, 2, 1, 1, 3));
        DUE.no("regionAlike of four", x.regionAlike(0, 2, 1, 1, 4));
        DUE.no("regionAlike of another sign", x.regionAlike(0, 2, 2, 1, 3));
        DUE.yes("regionAlike of none at the ends", x.regionAlike(0, 6, 1, 5, 0));
        DUE.no("regionAlike of none behind the end", x.regionAlike(0, 7, 1, 5, 0));
        DUE.yes("regionAlike of -1", x.regionAlike(0, 7, 1, 6, -1));
        DUE.no("regionAlike from -1", x.regionAlike(0, -1, 1, 0, -1));
        DUE.no("regionAlike from -1 of the other", x.regionAlike(0, 0, 1, -1, -1));
        DUE.no("regionAlike of MAX", x.regionAlike(0, 1, 1, 1, MAX));
        DUE.yes("regionAlike of MIN", x.regionAlike(0, MAX, 1, MAX, MIN));
    }

    private static void same() {
        TextShelves x = Due.with("abc", "abc", "abC", "abcd", "", "");
        DUE.yes("same abc", x.same(0, 1));
        DUE.yes("same itself", x.same(0, -8));
        DUE.no("same abC", x.same(0, 2));
        DUE.no("same abcd", x.same(0, 3));
        DUE.no("same abcd, abc", x.same(3, 0));
        DUE.yes("same of empty ones", x.same(4, 5));
        DUE.no("same of one and an empty one", x.same(0, 4));
        DUE.no("same of an empty one and one", x.same(4, 0));
    }

    private static void alike() {
        TextShelves x = Due.with("aBc[", "AbC[", "AbC{", "AbC[x", "", "");
        DUE.yes("alike", x.alike(0, 1));
        DUE.yes("alike itself", x.alike(0, 0));
        DUE.no("alike [ and {", x.alike(0, 2));
        DUE.no("alike a longer one", x.alike(0, 3));
        DUE.no("alike a shorter one", x.alike(3, 0));
        DUE.yes("alike of empty ones", x.alike(4, 5));
        DUE.no("alike of an empty one and one", x.alike(4, 0));
    }

    /** Each sign against the one that is 32 apart: only letters are alike then. */
    private static void alikeSigns() {
        TextShelves x = new TextShelves();
        for (int sign = 0; sign < 96; sign++) {
            x.wipe(0);
            x.wipe(1);
            x.type(0, sign);
            x.type(1, sign + 32);
            boolean letter = sign >= 'A' && sign <= 'Z';
            DUE.is("alike of " + sign + " and 32 more", x.alike(0, 1) ? 1 : 0, letter ? 1 : 0);
        }
    }

    private static void compare() {
        TextShelves x = Due.with("abc", "abd", "ab", "", "Abc", "b", "\0", "\u007f");
        DUE.is("compare abc, abd", x.compare(0, 1), -1);
        DUE.is("compare abd, abc", x.compare(1, 0), 1);
        DUE.is("compare abc, ab", x.compare(0, 2), 1);
        DUE.is("compare ab, abc", x.compare(2, 0), -1);
        DUE.is("compare abc, itself", x.compare(0, 8), 0);
        DUE.is("compare abc, empty", x.compare(0, 3), 3);
        DUE.is("compare empty, abc", x.compare(3, 0), -3);
        DUE.is("compare empty, itself", x.compare(3, 3), 0);
        DUE.is("compare abc, Abc", x.compare(0, 4), 32);
        DUE.is("compare Abc, b", x.compare(4, 5), 65 - 98);
        DUE.is("compare 0, 127", x.compare(6, 7), -127);
        DUE.is("compare 0, empty", x.compare(6, 3), 1);
    }

    private static void compareAlike() {
        TextShelves x = Due.with("aBc", "AbC", "ABD", "aBcxyz", "", "_", "Z", "z");
        DUE.is("compareAlike aBc, AbC", x.compareAlike(0, 1), 0);
        DUE.is("compareAlike aBc, ABD", x.compareAlike(0, 2), -1);
        DUE.is("compareAlike ABD, aBc", x.compareAlike(2, 0), 1);
        DUE.is("compareAlike AbC, aBcxyz", x.compareAlike(1, 3), -1);
        DUE.is("compareAlike aBcxyz, AbC", x.compareAlike(3, 1), 1);
        DUE.is("compareAlike aBc, empty", x.compareAlike(0, 4), 1);
        DUE.is("compareAlike empty, aBc", x.compareAlike(4, 0), -1);
        DUE.is("compareAlike empty, itself", x.compareAlike(4, 4), 0);
        DUE.is("compareAlike _, Z, as if z", x.compareAlike(5, 6), -1);
        DUE.is("compareAlike Z, _, as if z", x.compareAlike(6, 5), 1);
        DUE.is("compareAlike Z, z", x.compareAlike(6, 7), 0);
        DUE.is("compareAlike Z, ABD", x.compareAlike(6, 2), 1);
    }
}
