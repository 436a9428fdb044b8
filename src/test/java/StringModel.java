import java.util.Arrays;

/** What the document promises, told by java.lang.String; RandomRunsTest holds the class against it. */
final class StringModel {
    private static final int NONE = -1;
    private static final int UNFIT = -1000001;
    private static final int BEYOND = -1000002;
    private static final int BAD = -1000003;
    private static final int FULL = -1000004;
    private static final int MOST = 300;

    private String[] texts = emptyTexts();
    private String[] parts = {};
    private final String[][] keptTexts = {emptyTexts(), emptyTexts()};
    private final String[][] keptParts = {{}, {}};

    private static String[] emptyTexts() {
        String[] empty = new String[8];
        Arrays.fill(empty, "");
        return empty;
    }

    String at(int shelf) {
        return texts[Math.floorMod(shelf, 8)];
    }

    String[] parts() {
        return parts;
    }

    private int lay(int to, String text) {
        texts[Math.floorMod(to, 8)] = text;
        return text.length();
    }

    private int layIfItFits(int to, String text) {
        return text.length() > MOST ? FULL : lay(to, text);
    }

    private static boolean isSign(int sign) {
        return sign >= 0 && sign <= 127;
    }

    int wipe(int shelf) {
        int had = at(shelf).length();
        lay(shelf, "");
        return had;
    }

    int type(int shelf, int sign) {
        return isSign(sign) ? layIfItFits(shelf, at(shelf) + (char) sign) : UNFIT;
    }

    int feed(int shelf, long signs, int n) {
        if (n < 1 || n > 8) {
            return UNFIT;
        }
        String fed = "";
        long rest = signs;
        for (int i = 0; i < n; i++) {
            if ((rest & 128) != 0) {
                return UNFIT;
            }
            fed += (char) (rest & 127);
            rest >>= 8;
        }
        return layIfItFits(shelf, at(shelf) + fed);
    }

    int copy(int shelf, int to) {
        return lay(to, at(shelf));
    }

    int swap(int shelf, int other) {
        String text = at(shelf);
        int has = lay(shelf, at(other));
        lay(other, text);
        return has;
    }

    int concat(int shelf, int other, int to) {
        return layIfItFits(to, at(shelf).concat(at(other)));
    }

    int substring(int shelf, int from, int until, int to) {
        boolean beyond = from < 0 || until > at(shelf).length() || from > until;
        return beyond ? BEYOND : lay(to, at(shelf).substring(from, until));
    }

    int tail(int shelf, int from, int to) {
        boolean beyond = from < 0 || from > at(shelf).length();
        return beyond ? BEYOND : lay(to, at(shelf).substring(from));
    }

    int number(int value, int to) {
        return lay(to, Integer.toString(value));
    }

    int big(long value, int to) {
        return lay(to, Long.toString(value));
    }

    int charAt(int shelf, int place) {
        return place < 0 || place >= at(shelf).length() ? BEYOND : at(shelf).charAt(place);
    }

    boolean isBlank(int shelf) {
        return at(shelf).isBlank();
    }

    int replaceSign(int shelf, int sign, int other, int to) {
        boolean fit = isSign(sign) && isSign(other);
        return fit ? lay(to, at(shelf).replace((char) sign, (char) other)) : UNFIT;
    }

    int replaceText(int shelf, int other, int third, int to) {
        boolean fit = !at(other).isEmpty();
        return fit ? layIfItFits(to, at(shelf).replace(at(other), at(third))) : UNFIT;
    }

    int trim(int shelf, int to) {
        return lay(to, at(shelf).trim());
    }

    int strip(int shelf, int to) {
        return lay(to, at(shelf).strip());
    }

    int repeat(int shelf, int times, int to) {
        if (times < 0) {
            return BAD;
        }
        boolean full = (long) at(shelf).length() * times > MOST;
        return full ? FULL : lay(to, at(shelf).repeat(times));
    }

    int turn(int shelf, int to) {
        return lay(to, new StringBuilder(at(shelf)).reverse().toString());
    }

    int part(int shelf, int sign, int limit) {
        if (!isSign(sign) || ".$|()[{^?*+\\".indexOf(sign) >= 0) {
            return UNFIT;
        }
        parts = at(shelf).split(String.valueOf((char) sign), limit);
        return parts.length;
    }

    int piece(int piece, int to) {
        return piece < 0 || piece >= parts.length ? BEYOND : lay(to, parts[piece]);
    }

    int join(int sign, int to) {
        boolean fit = isSign(sign);
        return fit ? layIfItFits(to, String.join(String.valueOf((char) sign), parts)) : UNFIT;
    }

    int count(int shelf, int other) {
        if (at(other).isEmpty()) {
            return UNFIT;
        }
        String without = at(shelf).replace(at(other), "");
        return (at(shelf).length() - without.length()) / at(other).length();
    }

    int head(int shelf, int other) {
        int differs = Arrays.mismatch(at(shelf).toCharArray(), at(other).toCharArray());
        return differs == NONE ? at(shelf).length() : differs;
    }

    int foot(int shelf, int other) {
        char[] mine = new StringBuilder(at(shelf)).reverse().toString().toCharArray();
        char[] its = new StringBuilder(at(other)).reverse().toString().toCharArray();
        int differs = Arrays.mismatch(mine, its);
        return differs == NONE ? mine.length : differs;
    }

    int keep(int image) {
        keptTexts[Math.floorMod(image, 2)] = texts.clone();
        keptParts[Math.floorMod(image, 2)] = parts;
        return String.join("", texts).length();
    }

    int back(int image) {
        texts = keptTexts[Math.floorMod(image, 2)].clone();
        parts = keptParts[Math.floorMod(image, 2)];
        return String.join("", texts).length();
    }

    long digest() {
        long h = 17;
        for (String text : texts) {
            h = fold(h, text);
        }
        for (String part : parts) {
            h = fold(h, part);
        }
        return h;
    }

    private static long fold(long h, String text) {
        long folded = 31 * h + text.length();
        for (char sign : text.toCharArray()) {
            folded = 31 * folded + sign;
        }
        return folded;
    }
}
