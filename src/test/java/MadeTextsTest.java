/** Promises 35 to 40: texts made of texts. */
public final class MadeTextsTest {
    private static final Due DUE = new Due("MadeTextsTest");
    private static final int MIN = Integer.MIN_VALUE;
    private static final int MAX = Integer.MAX_VALUE;

    public static void main(String[] args) {
        replaceSign();
        replaceText();
        replaceTextRefused();
        trim();
        strip();
        repeat();
        turn();
        DUE.end();
    }

    private static void replaceSign() {
        TextShelves x = Due.with("banana", "old");
        DUE.is("a to o", x.replaceSign(0, 'a', 'o', 1), 6);
        DUE.text("a to o", x, 1, "bonono");
        DUE.text("a to o", x, 0, "banana");
        DUE.is("a to 0", x.replaceSign(0, 'a', 0, 2), 6);
        DUE.text("a to 0", x, 2, "b\0n\0n\0");
        DUE.is("0 to 127", x.replaceSign(2, 0, 127, 2), 6);
        DUE.text("0 to 127", x, 2, "b\u007fn\u007fn\u007f");
        DUE.is("b to a at the beginning", x.replaceSign(0, 'b', 'a', 1), 6);
        DUE.text("b to a at the beginning", x, 1, "aanana");
        DUE.is("z to y", x.replaceSign(0, 'z', 'y', 1), 6);
        DUE.text("z to y", x, 1, "banana");
        DUE.is("a to a", x.replaceSign(0, 'a', 'a', 8), 6);
        DUE.text("a to a", x, 0, "banana");
        DUE.is("of an empty text", x.replaceSign(3, 'a', 'b', 1), 0);
        DUE.text("of an empty text", x, 1, "");
        long before = x.digest();
        DUE.is("-1 to a", x.replaceSign(0, -1, 'a', 1), TextShelves.UNFIT);
        DUE.is("128 to a", x.replaceSign(0, 128, 'a', 1), TextShelves.UNFIT);
        DUE.is("a to -1", x.replaceSign(0, 'a', -1, 0), TextShelves.UNFIT);
        DUE.is("a to 128", x.replaceSign(0, 'a', 128, 0), TextShelves.UNFIT);
        DUE.is("MIN to MAX", x.replaceSign(0, MIN, MAX, 0), TextShelves.UNFIT);
        DUE.is("128 to a in an empty text", x.replaceSign(3, 128, 'a', 3), TextShelves.UNFIT);
        DUE.is("refused replaceSign()", x.digest(), before);
    }

    private static void replaceText() {
        TextShelves x = Due.with("aaaaa", "aa", "b", "", "abab", "ab", "aba");
        DUE.is("aa to b", x.replaceText(0, 1, 2, 7), 3);
        DUE.text("aa to b", x, 7, "bba");
        DUE.is("aa to nothing", x.replaceText(0, 1, 3, 7), 1);
        DUE.text("aa to nothing", x, 7, "a");
        DUE.is("ab to aba", x.replaceText(4, 5, 6, 7), 6);
        DUE.text("ab to aba", x, 7, "abaaba");
        DUE.is("aa to itself", x.replaceText(0, 1, 1, 7), 5);
        DUE.text("aa to itself", x, 7, "aaaaa");
        DUE.is("what is not there", x.replaceText(1, 5, 2, 7), 2);
        DUE.text("what is not there", x, 7, "aa");
        DUE.is("all of a text", x.replaceText(1, 1, 2, 7), 1);
        DUE.text("all of a text", x, 7, "b");
        DUE.is("in an empty text", x.replaceText(3, 1, 2, 7), 0);
        DUE.text("in an empty text", x, 7, "");
        DUE.is("a longer text", x.replaceText(1, 0, 2, 7), 2);
        DUE.text("a longer text", x, 7, "aa");
        DUE.is("laid on the first", x.replaceText(4, 5, 6, 4), 6);
        DUE.text("laid on the first", x, 4, "abaaba");
        DUE.is("laid on what is looked for", x.replaceText(4, 5, 2, 5), 4);
        DUE.text("laid on what is looked for", x, 5, "baba");
        DUE.is("laid on the third", x.replaceText(0, 1, 6, 6), 7);
        DUE.text("laid on the third", x, 6, "abaabaa");
    }

    private static void replaceTextRefused() {
        TextShelves x = Due.with("a".repeat(150), "a", "bb", "bbb", "", "c".repeat(300));
        long before = x.digest();
        DUE.is("empty looked for", x.replaceText(0, 4, 2, 7), TextShelves.UNFIT);
        DUE.is("empty looked for in an empty one", x.replaceText(4, 4, 2, 7), TextShelves.UNFIT);
        DUE.is("empty looked for in a full one", x.replaceText(5, 4, 5, 7), TextShelves.UNFIT);
        DUE.is("up to 450", x.replaceText(0, 1, 3, 0), TextShelves.FULL);
        DUE.is("up to 45000", x.replaceText(0, 1, 5, 0), TextShelves.FULL);
        DUE.is("refused replaceText()", x.digest(), before);
        DUE.is("up to 300", x.replaceText(0, 1, 2, 7), 300);
        DUE.text("up to 300", x, 7, "b".repeat(300));
        DUE.is("full to full", x.replaceText(5, 5, 7, 6), 300);
        DUE.text("full to full", x, 6, "b".repeat(300));
        x.type(0, 'b');
        before = x.digest();
        DUE.is("up to 301", x.replaceText(0, 1, 2, 7), TextShelves.FULL);
        DUE.is("refused replaceText() up to 301", x.digest(), before);
        DUE.is("a full one to nothing", x.replaceText(7, 2, 4, 7), 0);
        DUE.text("a full one to nothing", x, 7, "");
    }

    private static void trim() {
        TextShelves x = Due.with("\0\u0001 \u001b a b \u001b\t\0", " \0\t", "", "!a!", "a b", " a");
        DUE.is("trim of both ends", x.trim(0, 7), 3);
        DUE.text("trim of both ends", x, 7, "a b");
        DUE.is("trim of all", x.trim(1, 7), 0);
        DUE.text("trim of all", x, 7, "");
        DUE.is("trim of the empty one", x.trim(2, 7), 0);
        DUE.is("trim stops at 33", x.trim(3, 7), 3);
        DUE.text("trim stops at 33", x, 7, "!a!");
        DUE.is("trim of nothing", x.trim(4, 7), 3);
        DUE.text("trim of nothing", x, 7, "a b");
        DUE.is("trim onto itself", x.trim(5, -3), 1);
        DUE.text("trim onto itself", x, 5, "a");
    }

    private static void strip() {
        String blanks = "\t\n\u000b\f\r\u001c\u001d\u001e\u001f ";
        TextShelves x = Due.with(blanks + "a b" + blanks, blanks, "", " \u001b ", " \0\b\u000e", "a ");
        DUE.is("strip of both ends", x.strip(0, 7), 3);
        DUE.text("strip of both ends", x, 7, "a b");
        DUE.is("strip of all", x.strip(1, 7), 0);
        DUE.text("strip of all", x, 7, "");
        DUE.is("strip of the empty one", x.strip(2, 7), 0);
        DUE.is("strip stops at 27", x.strip(3, 7), 1);
        DUE.text("strip stops at 27", x, 7, "\u001b");
        DUE.is("strip stops at 0 and 14", x.strip(4, 7), 3);
        DUE.text("strip stops at 0 and 14", x, 7, "\0\b\u000e");
        DUE.is("strip onto itself", x.strip(5, 13), 1);
        DUE.text("strip onto itself", x, 5, "a");
        for (int sign = 0; sign < 40; sign++) {
            x.wipe(6);
            x.type(6, sign);
            int stays = blanks.indexOf(sign) >= 0 ? 0 : 1;
            DUE.is("strip of " + sign, x.strip(6, 7), stays);
            DUE.is("trim of " + sign, x.trim(6, 7), sign <= 32 ? 0 : 1);
        }
    }

    private static void repeat() {
        TextShelves x = Due.with("abc", "old", "", "d".repeat(300));
        DUE.is("three times", x.repeat(0, 3, 1), 9);
        DUE.text("three times", x, 1, "abcabcabc");
        DUE.is("once", x.repeat(0, 1, 1), 3);
        DUE.text("once", x, 1, "abc");
        DUE.is("no times", x.repeat(0, 0, 1), 0);
        DUE.text("no times", x, 1, "");
        DUE.is("100 times", x.repeat(0, 100, 1), 300);
        DUE.text("100 times", x, 1, "abc".repeat(100));
        long before = x.digest();
        DUE.is("101 times", x.repeat(0, 101, 1), TextShelves.FULL);
        DUE.is("MAX times", x.repeat(0, MAX, 1), TextShelves.FULL);
        DUE.is("1431655766 times, which would wrap to 2", x.repeat(0, 1431655766, 1), TextShelves.FULL);
        x.feed(4, Due.packed("abcdefg"), 7);
        before = x.digest();
        DUE.is("43 times 7, which is 301", x.repeat(4, 43, 1), TextShelves.FULL);
        DUE.is("a full one twice", x.repeat(3, 2, 1), TextShelves.FULL);
        DUE.is("-1 times", x.repeat(0, -1, 1), TextShelves.BAD);
        DUE.is("MIN times", x.repeat(0, MIN, 1), TextShelves.BAD);
        DUE.is("-1 times the empty one", x.repeat(2, -1, 1), TextShelves.BAD);
        DUE.is("refused repeat()", x.digest(), before);
        DUE.is("a full one once", x.repeat(3, 1, 1), 300);
        DUE.text("a full one once", x, 1, "d".repeat(300));
        DUE.is("MAX times the empty one", x.repeat(2, MAX, 1), 0);
        DUE.text("MAX times the empty one", x, 1, "");
        DUE.is("onto itself", x.repeat(0, 2, 0), 6);
        DUE.text("onto itself", x, 0, "abcabc");
        DUE.is("no times onto itself", x.repeat(0, 0, 8), 0);
        DUE.text("no times onto itself", x, 0, "");
    }

    private static void turn() {
        TextShelves x = Due.with("abcd", "x", "", "abc");
        DUE.is("turn(0, 7)", x.turn(0, 7), 4);
        DUE.text("turn(0, 7)", x, 7, "dcba");
        DUE.text("turn(0, 7)", x, 0, "abcd");
        DUE.is("turn of one", x.turn(1, 7), 1);
        DUE.text("turn of one", x, 7, "x");
        DUE.is("turn of none", x.turn(2, 7), 0);
        DUE.text("turn of none", x, 7, "");
        DUE.is("turn onto itself", x.turn(3, -5), 3);
        DUE.text("turn onto itself", x, 3, "cba");
    }
}
